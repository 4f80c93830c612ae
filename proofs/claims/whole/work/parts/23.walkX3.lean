section XWwalkX3
variable {p : Program} {l : Launch} {e : Env} {s : State} {m : MethodId} {args : Array Value} {below : List Frame} {meth : Method} {c : Code} {D : va_G} {cy : Nat → ClassId} {a z : Nat → Nat}
set_option maxHeartbeats 4000000 in
set_option maxRecDepth 100000 in
theorem w_X10_seekChimney_58 {x1 : Int32} {x2 : Int32} (hM : xM p c cX10_seekChimney m s args RX10 3 D cy xtb a z) (hr : meth.sig.returnType = none) (hlk : meth.locks = false) {S' : xSt} {v' : Unit} {S : xSt} {q : ((xSt × Int32) ⊕ (xSt × Unit))} (h : f_X10_seekChimney_58 x1 x2 S = some q) (k0 : ∀ t0 : xSt × Unit, q = (.inr t0) → t0 = (S', v')) (k1 : ∀ (S : xSt) (x2 : Int32), q = (.inl (S, x2)) → ∀ (H : Heap) (locs : List Loc) (ls : Array Slot), xG D cy xtb a S s H locs → lv_has ls 3 [(0, .ref (a 86)), (1, .int x1), (2, .int x2)] → W p l e ({ frames := 5, cells := 0, slots := 0, locals := 124 } : Room) s m args below meth c H locs 0 0 (MQ below (xQv D cy xtb a S' v' s.heap.size) args s 0 0 (xA xtb a s.heap.size)) (F0 m 6 ls [])) {H : Heap} {locs : List Loc} (hG : xG D cy xtb a S s H locs) {ls : Array Slot} (hl : lv_has ls 3 [(0, .ref (a 86)), (1, .int x1), (2, .int x2)]) : W p l e ({ frames := 5, cells := 0, slots := 0, locals := 124 } : Room) s m args below meth c H locs 0 0 (MQ below (xQv D cy xtb a S' v' s.heap.size) args s 0 0 (xA xtb a s.heap.size)) (F0 m 58 ls []) := by
  have hx := hM.1
  have hb := hM.2.1
  refine x_iinc hM (fun v => [(2, .int v), (0, .ref (a 86)), (1, .int x1)]) h dX10_seekChimney_58 hl (k := 2) rfl (by decide) (by decide) (fun _ => rfl) (fun v_1 ls h hl => ?_)
  refine lv_goto (tgt := 6) hx hb dX10_seekChimney_61 (by decide) ?_
  exact k1 _ _ (Option.some.inj h).symm _ _ _ hG (lv_sub hl [1, 2, 0] rfl)
set_option maxHeartbeats 4000000 in
set_option maxRecDepth 100000 in
theorem w_X10_seekChimney_6 {x1 : Int32} {x2 : Int32} (hM : xM p c cX10_seekChimney m s args RX10 3 D cy xtb a z) (hr : meth.sig.returnType = none) (hlk : meth.locks = false) {S' : xSt} {v' : Unit} {S : xSt} {q : ((xSt × Int32) ⊕ (xSt × Unit))} (h : f_X10_seekChimney_6 x1 S x2 = some q) (k0 : ∀ t0 : xSt × Unit, q = (.inr t0) → t0 = (S', v')) (k1 : ∀ (S : xSt) (x2 : Int32), q = (.inl (S, x2)) → ∀ (H : Heap) (locs : List Loc) (ls : Array Slot), xG D cy xtb a S s H locs → lv_has ls 3 [(0, .ref (a 86)), (1, .int x1), (2, .int x2)] → W p l e ({ frames := 5, cells := 0, slots := 0, locals := 124 } : Room) s m args below meth c H locs 0 0 (MQ below (xQv D cy xtb a S' v' s.heap.size) args s 0 0 (xA xtb a s.heap.size)) (F0 m 6 ls [])) {H : Heap} {locs : List Loc} (hG : xG D cy xtb a S s H locs) {ls : Array Slot} (hl : lv_has ls 3 [(0, .ref (a 86)), (1, .int x1), (2, .int x2)]) : W p l e ({ frames := 5, cells := 0, slots := 0, locals := 124 } : Room) s m args below meth c H locs 0 0 (MQ below (xQv D cy xtb a S' v' s.heap.size) args s 0 0 (xA xtb a s.heap.size)) (F0 m 6 ls []) := by
  have hx := hM.1
  have hb := hM.2.1
  refine lv_iload_n hx hb dX10_seekChimney_6 rfl (lv_at hl 2 rfl) ?_
  refine lv_bipush (v := (6 : Int32)) hx hb dX10_seekChimney_7 (by decide) ?_
  refine x_icmp_ge (tgt := 64) hM h dX10_seekChimney_9 (by decide) (fun c_1 h => ?_) (fun c_1 h => ?_)
  · exact x_rv hM hG hr hlk (k0 _ (Option.some.inj h).symm) dX10_seekChimney_64
  · refine lv_aload_n hx hb dX10_seekChimney_12 rfl (lv_at hl 0 rfl) ?_
    refine x_gr (r := 16) hM hG xfl_X10_9 xct_86 (by decide) rfl dX10_seekChimney_13 ?_
    refine x_gr (r := 16 + 2) hM hG xfl_X10_62 xih_hay.1 (by decide) rfl dX10_seekChimney_16 ?_
    refine lv_iload_n hx hb dX10_seekChimney_19 rfl (lv_at hl 2 rfl) ?_
    refine x_iald hM hG xih_hay.2.2.1 h dX10_seekChimney_20 (fun v_2 h => ?_)
    refine x_if_ne (tgt := 58) hM h dX10_seekChimney_21 (by decide) (fun c_3 h => ?_) (fun c_3 h => ?_)
    · exact w_X10_seekChimney_58 hM hr hlk h (fun t0 e => k0 t0 e) (fun S x2 e => k1 S x2 e) hG (lv_sub hl [0, 1, 2] rfl)
    · refine lv_aload_n hx hb dX10_seekChimney_24 rfl (lv_at hl 0 rfl) ?_
      refine x_gr (r := 36) hM hG xfl_X10_15 xct_86 (by decide) rfl dX10_seekChimney_25 ?_
      refine lv_aload_n hx hb dX10_seekChimney_28 rfl (lv_at hl 0 rfl) ?_
      refine x_gr (r := 16) hM hG xfl_X10_9 xct_86 (by decide) rfl dX10_seekChimney_29 ?_
      refine x_cVv (As := [.ref (a 16)]) (rest := []) hM hG xml_X10_18 xwi_X4_takeAll xws_X4_takeAll xih_mind.1 (by decide) rfl h (fun S' v e => c_X4_takeAll hM.2.2.2.2.2.2.1 xih_mind xih_hay e _) ⟨Nat.le_of_ble_eq_true rfl, Nat.le_of_ble_eq_true rfl⟩ rfl hl.1 rfl (Nat.le_of_ble_eq_true rfl) dX10_seekChimney_32 (fun S_4 v_5 H locs h hG => ?_)
      refine lv_aload_n hx hb dX10_seekChimney_35 rfl (lv_at hl 0 rfl) ?_
      refine x_gr (r := 36) hM hG xfl_X10_15 xct_86 (by decide) rfl dX10_seekChimney_36 ?_
      refine x_gr (r := 36 + 2) hM hG xfl_X10_62 xih_mind.1 (by decide) rfl dX10_seekChimney_39 ?_
      refine lv_iload_n hx hb dX10_seekChimney_42 rfl (lv_at hl 2 rfl) ?_
      refine lv_iconst (v := (1 : Int32)) hx hb dX10_seekChimney_43 (by decide) ?_
      refine x_iast hM hG xih_mind.2.2.1 h dX10_seekChimney_44 (fun S_6 H locs h hG => ?_)
      refine lv_aload_n hx hb dX10_seekChimney_45 rfl (lv_at hl 0 rfl) ?_
      refine lv_aload_n hx hb dX10_seekChimney_46 rfl (lv_at hl 0 rfl) ?_
      refine x_gr (r := 36) hM hG xfl_X10_15 xct_86 (by decide) rfl dX10_seekChimney_47 ?_
      refine lv_iload_n hx hb dX10_seekChimney_50 rfl (lv_at hl 1 rfl) ?_
      refine x_cVi (As := [.int x1]) (rest := [.ref (a 86)]) hM hG xml_X10_55 xwi_X4_hottestBehind xws_X4_hottestBehind xih_mind.1 (by decide) rfl h (fun S' v e => c_X4_hottestBehind hM.2.2.2.2.2.2.1 xih_mind e _) ⟨Nat.le_of_ble_eq_true rfl, Nat.le_of_ble_eq_true rfl⟩ rfl hl.1 rfl (Nat.le_of_ble_eq_true rfl) dX10_seekChimney_51 (fun S_7 v_8 H locs h hG => ?_)
      refine lv_iload_n hx hb dX10_seekChimney_54 rfl (lv_at hl 2 rfl) ?_
      refine x_cVv (As := [.int v_8, .int x2]) (rest := []) hM hG xml_X10_58 xwi_X10_takeCooler xws_X10_takeCooler xct_86 (by decide) rfl h (fun S' v e => c_X10_takeCooler hM.2.2.2.2.2.2.1 e _) ⟨Nat.le_of_ble_eq_true rfl, Nat.le_of_ble_eq_true rfl⟩ rfl hl.1 rfl (Nat.le_of_ble_eq_true rfl) dX10_seekChimney_55 (fun S_9 v_10 H locs h hG => ?_)
      exact w_X10_seekChimney_58 hM hr hlk h (fun t0 e => k0 t0 e) (fun S x2 e => k1 S x2 e) hG (lv_sub hl [0, 1, 2] rfl)
theorem wl_X10_seekChimney_6 {x1 : Int32} (hM : xM p c cX10_seekChimney m s args RX10 3 D cy xtb a z) (hr : meth.sig.returnType = none) (hlk : meth.locks = false) {S' : xSt} {v' : Unit} {q : (xSt × Unit)} (k0 : ∀ t0 : xSt × Unit, q = t0 → t0 = (S', v')) (n : Nat) : ∀ (S : xSt) (x2 : Int32) (H : Heap) (locs : List Loc) (ls : Array Slot), xlp (fun q : (xSt × Int32) => f_X10_seekChimney_6 x1 q.1 q.2) n (S, x2) = some q → xG D cy xtb a S s H locs → lv_has ls 3 [(0, .ref (a 86)), (1, .int x1), (2, .int x2)] → W p l e ({ frames := 5, cells := 0, slots := 0, locals := 124 } : Room) s m args below meth c H locs 0 0 (MQ below (xQv D cy xtb a S' v' s.heap.size) args s 0 0 (xA xtb a s.heap.size)) (F0 m 6 ls []) := by
  induction n with
  | zero => intro S x2 H locs ls h; exact (xlp_0 h).elim
  | succ n ih =>
    intro S x2 H locs ls h hG hl
    obtain ⟨q1, hq, hc, he⟩ := xlp_at h
    exact w_X10_seekChimney_6 hM hr hlk (q := q1) hq (fun t0 e => k0 t0 (he _ e).symm) (fun S x2 e H locs ls hG hl => ih S x2 H locs ls (hc _ e) hG hl) hG hl
set_option maxHeartbeats 4000000 in
set_option maxRecDepth 100000 in
theorem w_X10_seekChimney_0 {x1 : Int32} (hM : xM p c cX10_seekChimney m s args RX10 3 D cy xtb a z) (hr : meth.sig.returnType = none) (hlk : meth.locks = false) {S' : xSt} {v' : Unit} {S : xSt} {q : (xSt × Unit)} (h : f_X10_seekChimney_0 x1 S = some q) (k0 : ∀ t0 : xSt × Unit, q = t0 → t0 = (S', v')) {H : Heap} {locs : List Loc} (hG : xG D cy xtb a S s H locs) {ls : Array Slot} (hl : lv_has ls 3 [(0, .ref (a 86)), (1, .int x1)]) : W p l e ({ frames := 5, cells := 0, slots := 0, locals := 124 } : Room) s m args below meth c H locs 0 0 (MQ below (xQv D cy xtb a S' v' s.heap.size) args s 0 0 (xA xtb a s.heap.size)) (F0 m 0 ls []) := by
  have hx := hM.1
  have hb := hM.2.1
  refine lv_aload_n hx hb dX10_seekChimney_0 rfl (lv_at hl 0 rfl) ?_
  refine x_cVv (As := []) (rest := []) hM hG xml_X10_42 xwi_X10_forget xws_X10_forget xct_86 (by decide) rfl h (fun S' v e => c_X10_forget hM.2.2.2.2.2.2.1 e _) ⟨Nat.le_of_ble_eq_true rfl, Nat.le_of_ble_eq_true rfl⟩ rfl hl.1 rfl (Nat.le_of_ble_eq_true rfl) dX10_seekChimney_1 (fun S_1 v_2 H locs h hG => ?_)
  refine lv_iconst (v := (0 : Int32)) hx hb dX10_seekChimney_4 (by decide) ?_
  refine lv_istore_n (lv' := [(2, .int (0 : Int32)), (0, .ref (a 86)), (1, .int x1)]) hx hb dX10_seekChimney_5 rfl hl (by decide) rfl (fun ls hl => ?_)
  exact wl_X10_seekChimney_6 hM hr hlk (fun t0 e => k0 t0 e) 5000 _ _ _ _ _ h hG (lv_sub hl [1, 2, 0] rfl)
set_option maxHeartbeats 4000000 in
set_option maxRecDepth 100000 in
theorem c_X10_seekChimney {l : Launch} {D : va_G} {cy : Nat → ClassId} {a z : Nat → Nat} (hI : xI xtb a) {S : xSt} {x1 : Int32} {S' : xSt} {v' : Unit} (hf : f_X10_seekChimney S x1 = some (S', v')) (sz : Nat) : Met l yX10_seekChimney (Cond.code yX10_seekChimney cX10_seekChimney 3 none :: xTB) ({ frames := 5, cells := 0, slots := 0, locals := 124 } : Room) (va_Pc [.ref (a 86), .int x1] (xPre D cy xtb a z S sz)) (xQv D cy xtb a S' v' sz) 0 0 (xA xtb a sz) := by
  refine Met.ofW (cc := cX10_seekChimney) (maxL := 3) (ret := none) (by decide) rfl ?_
  intro p e s m args below meth c s₁ B hml hv
  obtain ⟨rfl, hsz, hP, hK, hE⟩ := hv
  subst hsz
  have hl := lv_entry ([.ref (a 86), .int x1]) (n := 3) (Nat.le_of_ble_eq_true rfl)
  rw [lg_entry_eq]
  generalize (lg_sl ([.ref (a 86), .int x1]) ++ List.replicate (3 - (lg_sl ([.ref (a 86), .int x1])).length) Slot.unset).toArray = ls at hl ⊢
  have hl : lv_has ls 3 [(0, .ref (a 86)), (1, .int x1)] := hl
  exact w_X10_seekChimney_0 ⟨B.exec, B.bytes, hml, findClass_of_methodNamed B.named, fun w hw => atoms_spec (ws := Cond.code yX10_seekChimney cX10_seekChimney 3 none :: xTB) B.pre w (List.mem_cons_of_mem _ hw), hK, hI, hE⟩ B.returns B.notSynchronized hf (fun t0 e => e.symm) ⟨hP, va_S.rf⟩ (lv_sub hl [0, 1] rfl)
set_option maxHeartbeats 4000000 in
set_option maxRecDepth 100000 in
theorem w_X10_staysDarkIfTurned_30 {x2 : Int32} (hM : xM p c cX10_staysDarkIfTurned m s args RX10 3 D cy xtb a z) (hr : meth.sig.returnType = (some .boolean)) (hlk : meth.locks = false) {S' : xSt} {v' : Int32} {S : xSt} {q : ((xSt × Int32) ⊕ (xSt × Int32))} (h : f_X10_staysDarkIfTurned_30 S x2 = some q) (k0 : ∀ t0 : xSt × Int32, q = (.inr t0) → t0 = (S', v')) (k1 : ∀ (S : xSt) (x2 : Int32), q = (.inl (S, x2)) → ∀ (H : Heap) (locs : List Loc) (ls : Array Slot), xG D cy xtb a S s H locs → lv_has ls 3 [(0, .ref (a 86)), (2, .int x2)] → W p l e ({ frames := 5, cells := 0, slots := 0, locals := 124 } : Room) s m args below meth c H locs 0 0 (MQ below (xQi D cy xtb a S' v' s.heap.size) args s 0 0 (xA xtb a s.heap.size)) (F0 m 30 ls [])) {H : Heap} {locs : List Loc} (hG : xG D cy xtb a S s H locs) {ls : Array Slot} (hl : lv_has ls 3 [(0, .ref (a 86)), (2, .int x2)]) : W p l e ({ frames := 5, cells := 0, slots := 0, locals := 124 } : Room) s m args below meth c H locs 0 0 (MQ below (xQi D cy xtb a S' v' s.heap.size) args s 0 0 (xA xtb a s.heap.size)) (F0 m 30 ls []) := by
  have hx := hM.1
  have hb := hM.2.1
  refine lv_iload_n hx hb dX10_staysDarkIfTurned_30 rfl (lv_at hl 1 rfl) ?_
  refine lv_bipush (v := (40 : Int32)) hx hb dX10_staysDarkIfTurned_31 (by decide) ?_
  refine x_icmp_gt (tgt := 61) hM h dX10_staysDarkIfTurned_33 (by decide) (fun c_1 h => ?_) (fun c_1 h => ?_)
  · refine lv_iconst (v := (1 : Int32)) hx hb dX10_staysDarkIfTurned_61 (by decide) ?_
    obtain ⟨hz, h⟩ := xgd_at h
    exact x_ri hM hG hr hlk (x_nz hz) (k0 _ (Option.some.inj h).symm) dX10_staysDarkIfTurned_62
  · refine lv_aload_n hx hb dX10_staysDarkIfTurned_36 rfl (lv_at hl 0 rfl) ?_
    refine x_gr (r := 36) hM hG xfl_X10_15 xct_86 (by decide) rfl dX10_staysDarkIfTurned_37 ?_
    refine x_cVi (As := []) (rest := []) hM hG xml_X10_85 xwi_X4_glowing xws_X4_glowing xih_mind.1 (by decide) rfl h (fun S' v e => c_X4_glowing hM.2.2.2.2.2.2.1 xih_mind e _) ⟨Nat.le_of_ble_eq_true rfl, Nat.le_of_ble_eq_true rfl⟩ rfl hl.1 rfl (Nat.le_of_ble_eq_true rfl) dX10_staysDarkIfTurned_40 (fun S_2 v_3 H locs h hG => ?_)
    refine x_if_le (tgt := 48) hM h dX10_staysDarkIfTurned_43 (by decide) (fun c_4 h => ?_) (fun c_4 h => ?_)
    · refine lv_aload_n hx hb dX10_staysDarkIfTurned_48 rfl (lv_at hl 0 rfl) ?_
      refine x_gr (r := 36) hM hG xfl_X10_15 xct_86 (by decide) rfl dX10_staysDarkIfTurned_49 ?_
      refine x_cVv (As := []) (rest := []) hM hG xml_X10_24 xwi_X4_passDay xws_X4_passDay xih_mind.1 (by decide) rfl h (fun S' v e => c_X4_passDay hM.2.2.2.2.2.2.1 xih_mind e _) ⟨Nat.le_of_ble_eq_true rfl, Nat.le_of_ble_eq_true rfl⟩ rfl hl.1 rfl (Nat.le_of_ble_eq_true rfl) dX10_staysDarkIfTurned_52 (fun S_5 v_6 H locs h hG => ?_)
      refine x_iinc hM (fun v => [(2, .int v), (0, .ref (a 86))]) h dX10_staysDarkIfTurned_55 hl (k := 1) rfl (by decide) (by decide) (fun _ => rfl) (fun v_7 ls h hl => ?_)
      refine lv_goto (tgt := 30) hx hb dX10_staysDarkIfTurned_58 (by decide) ?_
      exact k1 _ _ (Option.some.inj h).symm _ _ _ hG (lv_sub hl [1, 0] rfl)
    · refine lv_iconst (v := (0 : Int32)) hx hb dX10_staysDarkIfTurned_46 (by decide) ?_
      obtain ⟨hz, h⟩ := xgd_at h
      exact x_ri hM hG hr hlk (x_nz hz) (k0 _ (Option.some.inj h).symm) dX10_staysDarkIfTurned_47
theorem wl_X10_staysDarkIfTurned_30 (hM : xM p c cX10_staysDarkIfTurned m s args RX10 3 D cy xtb a z) (hr : meth.sig.returnType = (some .boolean)) (hlk : meth.locks = false) {S' : xSt} {v' : Int32} {q : (xSt × Int32)} (k0 : ∀ t0 : xSt × Int32, q = t0 → t0 = (S', v')) (n : Nat) : ∀ (S : xSt) (x2 : Int32) (H : Heap) (locs : List Loc) (ls : Array Slot), xlp (fun q : (xSt × Int32) => f_X10_staysDarkIfTurned_30 q.1 q.2) n (S, x2) = some q → xG D cy xtb a S s H locs → lv_has ls 3 [(0, .ref (a 86)), (2, .int x2)] → W p l e ({ frames := 5, cells := 0, slots := 0, locals := 124 } : Room) s m args below meth c H locs 0 0 (MQ below (xQi D cy xtb a S' v' s.heap.size) args s 0 0 (xA xtb a s.heap.size)) (F0 m 30 ls []) := by
  induction n with
  | zero => intro S x2 H locs ls h; exact (xlp_0 h).elim
  | succ n ih =>
    intro S x2 H locs ls h hG hl
    obtain ⟨q1, hq, hc, he⟩ := xlp_at h
    exact w_X10_staysDarkIfTurned_30 hM hr hlk (q := q1) hq (fun t0 e => k0 t0 (he _ e).symm) (fun S x2 e H locs ls hG hl => ih S x2 H locs ls (hc _ e) hG hl) hG hl
set_option maxHeartbeats 4000000 in
set_option maxRecDepth 100000 in
theorem w_X10_staysDarkIfTurned_28 {x1 : Int32} (hM : xM p c cX10_staysDarkIfTurned m s args RX10 3 D cy xtb a z) (hr : meth.sig.returnType = (some .boolean)) (hlk : meth.locks = false) {S' : xSt} {v' : Int32} {S : xSt} {q : (xSt × Int32)} (h : f_X10_staysDarkIfTurned_28 x1 S = some q) (k0 : ∀ t0 : xSt × Int32, q = t0 → t0 = (S', v')) {H : Heap} {locs : List Loc} (hG : xG D cy xtb a S s H locs) {ls : Array Slot} (hl : lv_has ls 3 [(0, .ref (a 86)), (1, .int x1)]) : W p l e ({ frames := 5, cells := 0, slots := 0, locals := 124 } : Room) s m args below meth c H locs 0 0 (MQ below (xQi D cy xtb a S' v' s.heap.size) args s 0 0 (xA xtb a s.heap.size)) (F0 m 28 ls []) := by
  have hx := hM.1
  have hb := hM.2.1
  refine lv_iload_n hx hb dX10_staysDarkIfTurned_28 rfl (lv_at hl 1 rfl) ?_
  refine lv_istore_n (lv' := [(2, .int x1), (0, .ref (a 86)), (1, .int x1)]) hx hb dX10_staysDarkIfTurned_29 rfl hl (by decide) rfl (fun ls hl => ?_)
  exact wl_X10_staysDarkIfTurned_30 hM hr hlk (fun t0 e => k0 t0 e) 5000 _ _ _ _ _ h hG (lv_sub hl [1, 0] rfl)
set_option maxHeartbeats 4000000 in
set_option maxRecDepth 100000 in
theorem w_X10_staysDarkIfTurned_8 {x1 : Int32} {x2 : Int32} (hM : xM p c cX10_staysDarkIfTurned m s args RX10 3 D cy xtb a z) (hr : meth.sig.returnType = (some .boolean)) (hlk : meth.locks = false) {S' : xSt} {v' : Int32} {S : xSt} {q : ((xSt × Int32) ⊕ (xSt × Int32))} (h : f_X10_staysDarkIfTurned_8 x1 S x2 = some q) (k0 : ∀ t0 : xSt × Int32, q = (.inr t0) → t0 = (S', v')) (k1 : ∀ (S : xSt) (x2 : Int32), q = (.inl (S, x2)) → ∀ (H : Heap) (locs : List Loc) (ls : Array Slot), xG D cy xtb a S s H locs → lv_has ls 3 [(0, .ref (a 86)), (1, .int x1), (2, .int x2)] → W p l e ({ frames := 5, cells := 0, slots := 0, locals := 124 } : Room) s m args below meth c H locs 0 0 (MQ below (xQi D cy xtb a S' v' s.heap.size) args s 0 0 (xA xtb a s.heap.size)) (F0 m 8 ls [])) {H : Heap} {locs : List Loc} (hG : xG D cy xtb a S s H locs) {ls : Array Slot} (hl : lv_has ls 3 [(0, .ref (a 86)), (1, .int x1), (2, .int x2)]) : W p l e ({ frames := 5, cells := 0, slots := 0, locals := 124 } : Room) s m args below meth c H locs 0 0 (MQ below (xQi D cy xtb a S' v' s.heap.size) args s 0 0 (xA xtb a s.heap.size)) (F0 m 8 ls []) := by
  have hx := hM.1
  have hb := hM.2.1
  refine lv_iload_n hx hb dX10_staysDarkIfTurned_8 rfl (lv_at hl 2 rfl) ?_
  refine lv_bipush (v := (6 : Int32)) hx hb dX10_staysDarkIfTurned_9 (by decide) ?_
  refine x_icmp_ge (tgt := 28) hM h dX10_staysDarkIfTurned_11 (by decide) (fun c_1 h => ?_) (fun c_1 h => ?_)
  · obtain ⟨q1, h, e1⟩ := xmr_at h
    exact w_X10_staysDarkIfTurned_28 hM hr hlk h (fun t0 e => k0 t0 (by rw [e1, e])) hG (lv_sub hl [0, 1] rfl)
  · refine lv_aload_n hx hb dX10_staysDarkIfTurned_14 rfl (lv_at hl 0 rfl) ?_
    refine x_gr (r := 36) hM hG xfl_X10_15 xct_86 (by decide) rfl dX10_staysDarkIfTurned_15 ?_
    refine lv_iload_n hx hb dX10_staysDarkIfTurned_18 rfl (lv_at hl 2 rfl) ?_
    refine x_cVv (As := [.int x2]) (rest := []) hM hG xml_X10_51 xwi_X4_turnColumn xws_X4_turnColumn xih_mind.1 (by decide) rfl h (fun S' v e => c_X4_turnColumn hM.2.2.2.2.2.2.1 xih_mind e _) ⟨Nat.le_of_ble_eq_true rfl, Nat.le_of_ble_eq_true rfl⟩ rfl hl.1 rfl (Nat.le_of_ble_eq_true rfl) dX10_staysDarkIfTurned_19 (fun S_2 v_3 H locs h hG => ?_)
    refine x_iinc hM (fun v => [(2, .int v), (0, .ref (a 86)), (1, .int x1)]) h dX10_staysDarkIfTurned_22 hl (k := 2) rfl (by decide) (by decide) (fun _ => rfl) (fun v_4 ls h hl => ?_)
    refine lv_goto (tgt := 8) hx hb dX10_staysDarkIfTurned_25 (by decide) ?_
    exact k1 _ _ (Option.some.inj h).symm _ _ _ hG (lv_sub hl [1, 2, 0] rfl)
theorem wl_X10_staysDarkIfTurned_8 {x1 : Int32} (hM : xM p c cX10_staysDarkIfTurned m s args RX10 3 D cy xtb a z) (hr : meth.sig.returnType = (some .boolean)) (hlk : meth.locks = false) {S' : xSt} {v' : Int32} {q : (xSt × Int32)} (k0 : ∀ t0 : xSt × Int32, q = t0 → t0 = (S', v')) (n : Nat) : ∀ (S : xSt) (x2 : Int32) (H : Heap) (locs : List Loc) (ls : Array Slot), xlp (fun q : (xSt × Int32) => f_X10_staysDarkIfTurned_8 x1 q.1 q.2) n (S, x2) = some q → xG D cy xtb a S s H locs → lv_has ls 3 [(0, .ref (a 86)), (1, .int x1), (2, .int x2)] → W p l e ({ frames := 5, cells := 0, slots := 0, locals := 124 } : Room) s m args below meth c H locs 0 0 (MQ below (xQi D cy xtb a S' v' s.heap.size) args s 0 0 (xA xtb a s.heap.size)) (F0 m 8 ls []) := by
  induction n with
  | zero => intro S x2 H locs ls h; exact (xlp_0 h).elim
  | succ n ih =>
    intro S x2 H locs ls h hG hl
    obtain ⟨q1, hq, hc, he⟩ := xlp_at h
    exact w_X10_staysDarkIfTurned_8 hM hr hlk (q := q1) hq (fun t0 e => k0 t0 (he _ e).symm) (fun S x2 e H locs ls hG hl => ih S x2 H locs ls (hc _ e) hG hl) hG hl
set_option maxHeartbeats 4000000 in
set_option maxRecDepth 100000 in
theorem w_X10_staysDarkIfTurned_0 {x1 : Int32} (hM : xM p c cX10_staysDarkIfTurned m s args RX10 3 D cy xtb a z) (hr : meth.sig.returnType = (some .boolean)) (hlk : meth.locks = false) {S' : xSt} {v' : Int32} {S : xSt} {q : (xSt × Int32)} (h : f_X10_staysDarkIfTurned_0 x1 S = some q) (k0 : ∀ t0 : xSt × Int32, q = t0 → t0 = (S', v')) {H : Heap} {locs : List Loc} (hG : xG D cy xtb a S s H locs) {ls : Array Slot} (hl : lv_has ls 3 [(0, .ref (a 86)), (1, .int x1)]) : W p l e ({ frames := 5, cells := 0, slots := 0, locals := 124 } : Room) s m args below meth c H locs 0 0 (MQ below (xQi D cy xtb a S' v' s.heap.size) args s 0 0 (xA xtb a s.heap.size)) (F0 m 0 ls []) := by
  have hx := hM.1
  have hb := hM.2.1
  refine lv_aload_n hx hb dX10_staysDarkIfTurned_0 rfl (lv_at hl 0 rfl) ?_
  refine lv_iload_n hx hb dX10_staysDarkIfTurned_1 rfl (lv_at hl 1 rfl) ?_
  refine x_cVr (As := [.int x1]) (rest := []) hM hG xml_X10_81 xwi_X10_behind xws_X10_behind xct_86 (by decide) rfl h (fun S' v e => c_X10_behind hM.2.2.2.2.2.2.1 e _) ⟨Nat.le_of_ble_eq_true rfl, Nat.le_of_ble_eq_true rfl⟩ rfl hl.1 rfl (Nat.le_of_ble_eq_true rfl) dX10_staysDarkIfTurned_2 (fun S_1 v_2 H locs h hG => ?_)
  obtain ⟨rfl, h⟩ := xgd_at h
  refine lv_pop hx hb dX10_staysDarkIfTurned_5 rfl ?_
  refine lv_iconst (v := (0 : Int32)) hx hb dX10_staysDarkIfTurned_6 (by decide) ?_
  refine lv_istore_n (lv' := [(2, .int (0 : Int32)), (0, .ref (a 86)), (1, .int x1)]) hx hb dX10_staysDarkIfTurned_7 rfl hl (by decide) rfl (fun ls hl => ?_)
  exact wl_X10_staysDarkIfTurned_8 hM hr hlk (fun t0 e => k0 t0 e) 5000 _ _ _ _ _ h hG (lv_sub hl [1, 2, 0] rfl)
set_option maxHeartbeats 4000000 in
set_option maxRecDepth 100000 in
theorem c_X10_staysDarkIfTurned {l : Launch} {D : va_G} {cy : Nat → ClassId} {a z : Nat → Nat} (hI : xI xtb a) {S : xSt} {x1 : Int32} {S' : xSt} {v' : Int32} (hf : f_X10_staysDarkIfTurned S x1 = some (S', v')) (sz : Nat) : Met l yX10_staysDarkIfTurned (Cond.code yX10_staysDarkIfTurned cX10_staysDarkIfTurned 3 (some .boolean) :: xTB) ({ frames := 5, cells := 0, slots := 0, locals := 124 } : Room) (va_Pc [.ref (a 86), .int x1] (xPre D cy xtb a z S sz)) (xQi D cy xtb a S' v' sz) 0 0 (xA xtb a sz) := by
  refine Met.ofW (cc := cX10_staysDarkIfTurned) (maxL := 3) (ret := (some .boolean)) (by decide) rfl ?_
  intro p e s m args below meth c s₁ B hml hv
  obtain ⟨rfl, hsz, hP, hK, hE⟩ := hv
  subst hsz
  have hl := lv_entry ([.ref (a 86), .int x1]) (n := 3) (Nat.le_of_ble_eq_true rfl)
  rw [lg_entry_eq]
  generalize (lg_sl ([.ref (a 86), .int x1]) ++ List.replicate (3 - (lg_sl ([.ref (a 86), .int x1])).length) Slot.unset).toArray = ls at hl ⊢
  have hl : lv_has ls 3 [(0, .ref (a 86)), (1, .int x1)] := hl
  exact w_X10_staysDarkIfTurned_0 ⟨B.exec, B.bytes, hml, findClass_of_methodNamed B.named, fun w hw => atoms_spec (ws := Cond.code yX10_staysDarkIfTurned cX10_staysDarkIfTurned 3 (some .boolean) :: xTB) B.pre w (List.mem_cons_of_mem _ hw), hK, hI, hE⟩ B.returns B.notSynchronized hf (fun t0 e => e.symm) ⟨hP, va_S.rf⟩ (lv_sub hl [0, 1] rfl)
set_option maxHeartbeats 4000000 in
set_option maxRecDepth 100000 in
theorem w_X10_latestTurn_22 {x2 : Int32} (hM : xM p c cX10_latestTurn m s args RX10 3 D cy xtb a z) (hr : meth.sig.returnType = (some .int)) (hlk : meth.locks = false) {S' : xSt} {v' : Int32} {S : xSt} {q : ((xSt × Int32) ⊕ (xSt × Int32))} (h : f_X10_latestTurn_22 S x2 = some q) (k0 : ∀ t0 : xSt × Int32, q = (.inr t0) → t0 = (S', v')) (k1 : ∀ (S : xSt) (x2 : Int32), q = (.inl (S, x2)) → ∀ (H : Heap) (locs : List Loc) (ls : Array Slot), xG D cy xtb a S s H locs → lv_has ls 3 [(0, .ref (a 86)), (2, .int x2)] → W p l e ({ frames := 6, cells := 0, slots := 0, locals := 146 } : Room) s m args below meth c H locs 0 0 (MQ below (xQi D cy xtb a S' v' s.heap.size) args s 0 0 (xA xtb a s.heap.size)) (F0 m 22 ls [])) {H : Heap} {locs : List Loc} (hG : xG D cy xtb a S s H locs) {ls : Array Slot} (hl : lv_has ls 3 [(0, .ref (a 86)), (2, .int x2)]) : W p l e ({ frames := 6, cells := 0, slots := 0, locals := 146 } : Room) s m args below meth c H locs 0 0 (MQ below (xQi D cy xtb a S' v' s.heap.size) args s 0 0 (xA xtb a s.heap.size)) (F0 m 22 ls []) := by
  have hx := hM.1
  have hb := hM.2.1
  refine lv_iload_n hx hb dX10_latestTurn_22 rfl (lv_at hl 1 rfl) ?_
  refine x_if_lt (tgt := 42) hM h dX10_latestTurn_23 (by decide) (fun c_1 h => ?_) (fun c_1 h => ?_)
  · refine lv_bipush (v := (-2 : Int32)) hx hb dX10_latestTurn_42 (by decide) ?_
    exact x_ri hM hG hr hlk rfl (k0 _ (Option.some.inj h).symm) dX10_latestTurn_44
  · refine lv_aload_n hx hb dX10_latestTurn_26 rfl (lv_at hl 0 rfl) ?_
    refine lv_iload_n hx hb dX10_latestTurn_27 rfl (lv_at hl 1 rfl) ?_
    refine x_cVi (As := [.int x2]) (rest := []) hM hG xml_X10_77 xwi_X10_staysDarkIfTurned xws_X10_staysDarkIfTurned xct_86 (by decide) rfl h (fun S' v e => c_X10_staysDarkIfTurned hM.2.2.2.2.2.2.1 e _) ⟨Nat.le_of_ble_eq_true rfl, Nat.le_of_ble_eq_true rfl⟩ rfl hl.1 rfl (Nat.le_of_ble_eq_true rfl) dX10_latestTurn_28 (fun S_2 v_3 H locs h hG => ?_)
    refine x_if_eq (tgt := 36) hM h dX10_latestTurn_31 (by decide) (fun c_4 h => ?_) (fun c_4 h => ?_)
    · refine x_iinc hM (fun v => [(2, .int v), (0, .ref (a 86))]) h dX10_latestTurn_36 hl (k := 1) rfl (by decide) (by decide) (fun _ => rfl) (fun v_5 ls h hl => ?_)
      refine lv_goto (tgt := 22) hx hb dX10_latestTurn_39 (by decide) ?_
      exact k1 _ _ (Option.some.inj h).symm _ _ _ hG (lv_sub hl [1, 0] rfl)
    · refine lv_iload_n hx hb dX10_latestTurn_34 rfl (lv_at hl 1 rfl) ?_
      exact x_ri hM hG hr hlk rfl (k0 _ (Option.some.inj h).symm) dX10_latestTurn_35
theorem wl_X10_latestTurn_22 (hM : xM p c cX10_latestTurn m s args RX10 3 D cy xtb a z) (hr : meth.sig.returnType = (some .int)) (hlk : meth.locks = false) {S' : xSt} {v' : Int32} {q : (xSt × Int32)} (k0 : ∀ t0 : xSt × Int32, q = t0 → t0 = (S', v')) (n : Nat) : ∀ (S : xSt) (x2 : Int32) (H : Heap) (locs : List Loc) (ls : Array Slot), xlp (fun q : (xSt × Int32) => f_X10_latestTurn_22 q.1 q.2) n (S, x2) = some q → xG D cy xtb a S s H locs → lv_has ls 3 [(0, .ref (a 86)), (2, .int x2)] → W p l e ({ frames := 6, cells := 0, slots := 0, locals := 146 } : Room) s m args below meth c H locs 0 0 (MQ below (xQi D cy xtb a S' v' s.heap.size) args s 0 0 (xA xtb a s.heap.size)) (F0 m 22 ls []) := by
  induction n with
  | zero => intro S x2 H locs ls h; exact (xlp_0 h).elim
  | succ n ih =>
    intro S x2 H locs ls h hG hl
    obtain ⟨q1, hq, hc, he⟩ := xlp_at h
    exact w_X10_latestTurn_22 hM hr hlk (q := q1) hq (fun t0 e => k0 t0 (he _ e).symm) (fun S x2 e H locs ls hG hl => ih S x2 H locs ls (hc _ e) hG hl) hG hl
set_option maxHeartbeats 4000000 in
set_option maxRecDepth 100000 in
theorem w_X10_latestTurn_0 (hM : xM p c cX10_latestTurn m s args RX10 3 D cy xtb a z) (hr : meth.sig.returnType = (some .int)) (hlk : meth.locks = false) {S' : xSt} {v' : Int32} {S : xSt} {q : (xSt × Int32)} (h : f_X10_latestTurn_0 S = some q) (k0 : ∀ t0 : xSt × Int32, q = t0 → t0 = (S', v')) {H : Heap} {locs : List Loc} (hG : xG D cy xtb a S s H locs) {ls : Array Slot} (hl : lv_has ls 3 [(0, .ref (a 86))]) : W p l e ({ frames := 6, cells := 0, slots := 0, locals := 146 } : Room) s m args below meth c H locs 0 0 (MQ below (xQi D cy xtb a S' v' s.heap.size) args s 0 0 (xA xtb a s.heap.size)) (F0 m 0 ls []) := by
  have hx := hM.1
  have hb := hM.2.1
  refine lv_aload_n hx hb dX10_latestTurn_0 rfl (lv_at hl 0 rfl) ?_
  refine lv_iconst (v := (-1 : Int32)) hx hb dX10_latestTurn_1 (by decide) ?_
  refine lv_aload_n hx hb dX10_latestTurn_2 rfl (lv_at hl 0 rfl) ?_
  refine x_gr (r := 16) hM hG xfl_X10_9 xct_86 (by decide) rfl dX10_latestTurn_3 ?_
  refine x_gi hM hG xfl_X10_65 xih_hay.1 (by decide) rfl h dX10_latestTurn_6 (fun v_1 h => ?_)
  refine x_cVi (As := [.int (-1 : Int32), .int v_1]) (rest := []) hM hG xml_X10_68 xwi_X10_firstDay xws_X10_firstDay xct_86 (by decide) rfl h (fun S' v e => c_X10_firstDay hM.2.2.2.2.2.2.1 e _) ⟨Nat.le_of_ble_eq_true rfl, Nat.le_of_ble_eq_true rfl⟩ rfl hl.1 rfl (Nat.le_of_ble_eq_true rfl) dX10_latestTurn_9 (fun S_2 v_3 H locs h hG => ?_)
  refine lv_istore_n (lv' := [(1, .int v_3), (0, .ref (a 86))]) hx hb dX10_latestTurn_12 rfl hl (by decide) rfl (fun ls hl => ?_)
  refine lv_bipush (v := (20 : Int32)) hx hb dX10_latestTurn_13 (by decide) ?_
  refine lv_iload_n hx hb dX10_latestTurn_15 rfl (lv_at hl 0 rfl) ?_
  refine lv_iconst (v := (1 : Int32)) hx hb dX10_latestTurn_16 (by decide) ?_
  refine x_isub hM h dX10_latestTurn_17 (fun v_4 h => ?_)
  refine x_mmin hM hl.1 xmm_X10_72 h (Nat.le_of_ble_eq_true rfl) (Nat.le_of_ble_eq_true rfl) dX10_latestTurn_18 (fun v_5 h => ?_)
  refine lv_istore_n (lv' := [(2, .int v_5), (1, .int v_3), (0, .ref (a 86))]) hx hb dX10_latestTurn_21 rfl hl (by decide) rfl (fun ls hl => ?_)
  exact wl_X10_latestTurn_22 hM hr hlk (fun t0 e => k0 t0 e) 5000 _ _ _ _ _ h hG (lv_sub hl [2, 0] rfl)
set_option maxHeartbeats 4000000 in
set_option maxRecDepth 100000 in
theorem c_X10_latestTurn {l : Launch} {D : va_G} {cy : Nat → ClassId} {a z : Nat → Nat} (hI : xI xtb a) {S : xSt} {S' : xSt} {v' : Int32} (hf : f_X10_latestTurn S = some (S', v')) (sz : Nat) : Met l yX10_latestTurn (Cond.code yX10_latestTurn cX10_latestTurn 3 (some .int) :: xTB) ({ frames := 6, cells := 0, slots := 0, locals := 146 } : Room) (va_Pc [.ref (a 86)] (xPre D cy xtb a z S sz)) (xQi D cy xtb a S' v' sz) 0 0 (xA xtb a sz) := by
  refine Met.ofW (cc := cX10_latestTurn) (maxL := 3) (ret := (some .int)) (by decide) rfl ?_
  intro p e s m args below meth c s₁ B hml hv
  obtain ⟨rfl, hsz, hP, hK, hE⟩ := hv
  subst hsz
  have hl := lv_entry ([.ref (a 86)]) (n := 3) (Nat.le_of_ble_eq_true rfl)
  rw [lg_entry_eq]
  generalize (lg_sl ([.ref (a 86)]) ++ List.replicate (3 - (lg_sl ([.ref (a 86)])).length) Slot.unset).toArray = ls at hl ⊢
  have hl : lv_has ls 3 [(0, .ref (a 86))] := hl
  exact w_X10_latestTurn_0 ⟨B.exec, B.bytes, hml, findClass_of_methodNamed B.named, fun w hw => atoms_spec (ws := Cond.code yX10_latestTurn cX10_latestTurn 3 (some .int) :: xTB) B.pre w (List.mem_cons_of_mem _ hw), hK, hI, hE⟩ B.returns B.notSynchronized hf (fun t0 e => e.symm) ⟨hP, va_S.rf⟩ (lv_sub hl [0] rfl)
set_option maxHeartbeats 4000000 in
set_option maxRecDepth 100000 in
theorem w_X10_seekSale_74 {x1 : Int32} {x2 : Int32} {x3 : Int32} (hM : xM p c cX10_seekSale m s args RX10 5 D cy xtb a z) (hr : meth.sig.returnType = none) (hlk : meth.locks = false) {S' : xSt} {v' : Unit} {S : xSt} {q : ((xSt × Int32) ⊕ (xSt × Unit))} (h : f_X10_seekSale_74 x1 x2 x3 S = some q) (k0 : ∀ t0 : xSt × Unit, q = (.inr t0) → t0 = (S', v')) (k1 : ∀ (S : xSt) (x3 : Int32), q = (.inl (S, x3)) → ∀ (H : Heap) (locs : List Loc) (ls : Array Slot), xG D cy xtb a S s H locs → lv_has ls 5 [(0, .ref (a 86)), (1, .int x1), (2, .int x2), (3, .int x3)] → W p l e ({ frames := 4, cells := 0, slots := 0, locals := 102 } : Room) s m args below meth c H locs 0 0 (MQ below (xQv D cy xtb a S' v' s.heap.size) args s 0 0 (xA xtb a s.heap.size)) (F0 m 29 ls [])) {H : Heap} {locs : List Loc} (hG : xG D cy xtb a S s H locs) {ls : Array Slot} (hl : lv_has ls 5 [(0, .ref (a 86)), (1, .int x1), (2, .int x2), (3, .int x3)]) : W p l e ({ frames := 4, cells := 0, slots := 0, locals := 102 } : Room) s m args below meth c H locs 0 0 (MQ below (xQv D cy xtb a S' v' s.heap.size) args s 0 0 (xA xtb a s.heap.size)) (F0 m 74 ls []) := by
  have hx := hM.1
  have hb := hM.2.1
  refine x_iinc hM (fun v => [(3, .int v), (0, .ref (a 86)), (1, .int x1), (2, .int x2)]) h dX10_seekSale_74 hl (k := 3) rfl (by decide) (by decide) (fun _ => rfl) (fun v_1 ls h hl => ?_)
  refine lv_goto (tgt := 29) hx hb dX10_seekSale_77 (by decide) ?_
  exact k1 _ _ (Option.some.inj h).symm _ _ _ hG (lv_sub hl [1, 2, 3, 0] rfl)
set_option maxHeartbeats 4000000 in
set_option maxRecDepth 100000 in
theorem w_X10_seekSale_29 {x1 : Int32} {x2 : Int32} {x3 : Int32} (hM : xM p c cX10_seekSale m s args RX10 5 D cy xtb a z) (hr : meth.sig.returnType = none) (hlk : meth.locks = false) {S' : xSt} {v' : Unit} {S : xSt} {q : ((xSt × Int32) ⊕ (xSt × Unit))} (h : f_X10_seekSale_29 x1 x2 S x3 = some q) (k0 : ∀ t0 : xSt × Unit, q = (.inr t0) → t0 = (S', v')) (k1 : ∀ (S : xSt) (x3 : Int32), q = (.inl (S, x3)) → ∀ (H : Heap) (locs : List Loc) (ls : Array Slot), xG D cy xtb a S s H locs → lv_has ls 5 [(0, .ref (a 86)), (1, .int x1), (2, .int x2), (3, .int x3)] → W p l e ({ frames := 4, cells := 0, slots := 0, locals := 102 } : Room) s m args below meth c H locs 0 0 (MQ below (xQv D cy xtb a S' v' s.heap.size) args s 0 0 (xA xtb a s.heap.size)) (F0 m 29 ls [])) {H : Heap} {locs : List Loc} (hG : xG D cy xtb a S s H locs) {ls : Array Slot} (hl : lv_has ls 5 [(0, .ref (a 86)), (1, .int x1), (2, .int x2), (3, .int x3)]) : W p l e ({ frames := 4, cells := 0, slots := 0, locals := 102 } : Room) s m args below meth c H locs 0 0 (MQ below (xQv D cy xtb a S' v' s.heap.size) args s 0 0 (xA xtb a s.heap.size)) (F0 m 29 ls []) := by
  have hx := hM.1
  have hb := hM.2.1
  refine lv_iload_n hx hb dX10_seekSale_29 rfl (lv_at hl 3 rfl) ?_
  refine lv_iload_n hx hb dX10_seekSale_30 rfl (lv_at hl 1 rfl) ?_
  refine x_icmp_gt (tgt := 80) hM h dX10_seekSale_31 (by decide) (fun c_1 h => ?_) (fun c_1 h => ?_)
  · exact x_rv hM hG hr hlk (k0 _ (Option.some.inj h).symm) dX10_seekSale_80
  · refine lv_aload_n hx hb dX10_seekSale_34 rfl (lv_at hl 0 rfl) ?_
    refine x_gr (r := 36) hM hG xfl_X10_15 xct_86 (by decide) rfl dX10_seekSale_35 ?_
    refine x_cVv (As := []) (rest := []) hM hG xml_X10_24 xwi_X4_passDay xws_X4_passDay xih_mind.1 (by decide) rfl h (fun S' v e => c_X4_passDay hM.2.2.2.2.2.2.1 xih_mind e _) ⟨Nat.le_of_ble_eq_true rfl, Nat.le_of_ble_eq_true rfl⟩ rfl hl.1 rfl (Nat.le_of_ble_eq_true rfl) dX10_seekSale_38 (fun S_2 v_3 H locs h hG => ?_)
    refine lv_aload_n hx hb dX10_seekSale_41 rfl (lv_at hl 0 rfl) ?_
    refine x_gr (r := 36) hM hG xfl_X10_15 xct_86 (by decide) rfl dX10_seekSale_42 ?_
    refine x_cVi (As := []) (rest := []) hM hG xml_X10_88 xwi_X4_value xws_X4_value xih_mind.1 (by decide) rfl h (fun S' v e => c_X4_value hM.2.2.2.2.2.2.1 xih_mind e _) ⟨Nat.le_of_ble_eq_true rfl, Nat.le_of_ble_eq_true rfl⟩ rfl hl.1 rfl (Nat.le_of_ble_eq_true rfl) dX10_seekSale_45 (fun S_4 v_5 H locs h hG => ?_)
    refine lv_iload_n hx hb dX10_seekSale_48 rfl (lv_at hl 2 rfl) ?_
    refine lv_iload_n hx hb dX10_seekSale_49 rfl (lv_at hl 3 rfl) ?_
    refine x_imul hM h dX10_seekSale_50 (fun v_6 h => ?_)
    refine x_isub hM h dX10_seekSale_51 (fun v_7 h => ?_)
    refine lv_istore (lv' := [(4, .int v_7), (0, .ref (a 86)), (1, .int x1), (2, .int x2), (3, .int x3)]) hx hb dX10_seekSale_52 hl (by decide) rfl (fun ls hl => ?_)
    refine lv_iload hx hb dX10_seekSale_54 (lv_at hl 0 rfl) ?_
    refine lv_aload_n hx hb dX10_seekSale_56 rfl (lv_at hl 1 rfl) ?_
    refine x_gi hM hG xfl_X10_35 xct_86 (by decide) rfl h dX10_seekSale_57 (fun v_8 h => ?_)
    refine x_icmp_le (tgt := 74) hM h dX10_seekSale_60 (by decide) (fun c_9 h => ?_) (fun c_9 h => ?_)
    · exact w_X10_seekSale_74 hM hr hlk h (fun t0 e => k0 t0 e) (fun S x3 e => k1 S x3 e) hG (lv_sub hl [1, 2, 3, 4] rfl)
    · refine lv_aload_n hx hb dX10_seekSale_63 rfl (lv_at hl 1 rfl) ?_
      refine lv_iload hx hb dX10_seekSale_64 (lv_at hl 0 rfl) ?_
      refine x_pi hM hG xfl_X10_35 xfp_X10_2 xct_86 (by decide) rfl rfl rfl h dX10_seekSale_66 (fun S_10 H locs h hG => ?_)
      refine lv_aload_n hx hb dX10_seekSale_69 rfl (lv_at hl 1 rfl) ?_
      refine lv_iload_n hx hb dX10_seekSale_70 rfl (lv_at hl 4 rfl) ?_
      refine x_pi hM hG xfl_X10_39 xfp_X10_3 xct_86 (by decide) rfl rfl rfl h dX10_seekSale_71 (fun S_11 H locs h hG => ?_)
      exact w_X10_seekSale_74 hM hr hlk h (fun t0 e => k0 t0 e) (fun S x3 e => k1 S x3 e) hG (lv_sub hl [1, 2, 3, 4] rfl)
theorem wl_X10_seekSale_29 {x1 : Int32} {x2 : Int32} (hM : xM p c cX10_seekSale m s args RX10 5 D cy xtb a z) (hr : meth.sig.returnType = none) (hlk : meth.locks = false) {S' : xSt} {v' : Unit} {q : (xSt × Unit)} (k0 : ∀ t0 : xSt × Unit, q = t0 → t0 = (S', v')) (n : Nat) : ∀ (S : xSt) (x3 : Int32) (H : Heap) (locs : List Loc) (ls : Array Slot), xlp (fun q : (xSt × Int32) => f_X10_seekSale_29 x1 x2 q.1 q.2) n (S, x3) = some q → xG D cy xtb a S s H locs → lv_has ls 5 [(0, .ref (a 86)), (1, .int x1), (2, .int x2), (3, .int x3)] → W p l e ({ frames := 4, cells := 0, slots := 0, locals := 102 } : Room) s m args below meth c H locs 0 0 (MQ below (xQv D cy xtb a S' v' s.heap.size) args s 0 0 (xA xtb a s.heap.size)) (F0 m 29 ls []) := by
  induction n with
  | zero => intro S x3 H locs ls h; exact (xlp_0 h).elim
  | succ n ih =>
    intro S x3 H locs ls h hG hl
    obtain ⟨q1, hq, hc, he⟩ := xlp_at h
    exact w_X10_seekSale_29 hM hr hlk (q := q1) hq (fun t0 e => k0 t0 (he _ e).symm) (fun S x3 e H locs ls hG hl => ih S x3 H locs ls (hc _ e) hG hl) hG hl
set_option maxHeartbeats 4000000 in
set_option maxRecDepth 100000 in
theorem w_X10_seekSale_0 {x1 : Int32} {x2 : Int32} (hM : xM p c cX10_seekSale m s args RX10 5 D cy xtb a z) (hr : meth.sig.returnType = none) (hlk : meth.locks = false) {S' : xSt} {v' : Unit} {S : xSt} {q : (xSt × Unit)} (h : f_X10_seekSale_0 x1 x2 S = some q) (k0 : ∀ t0 : xSt × Unit, q = t0 → t0 = (S', v')) {H : Heap} {locs : List Loc} (hG : xG D cy xtb a S s H locs) {ls : Array Slot} (hl : lv_has ls 5 [(0, .ref (a 86)), (1, .int x1), (2, .int x2)]) : W p l e ({ frames := 4, cells := 0, slots := 0, locals := 102 } : Room) s m args below meth c H locs 0 0 (MQ below (xQv D cy xtb a S' v' s.heap.size) args s 0 0 (xA xtb a s.heap.size)) (F0 m 0 ls []) := by
  have hx := hM.1
  have hb := hM.2.1
  refine lv_aload_n hx hb dX10_seekSale_0 rfl (lv_at hl 0 rfl) ?_
  refine x_gr (r := 36) hM hG xfl_X10_15 xct_86 (by decide) rfl dX10_seekSale_1 ?_
  refine lv_aload_n hx hb dX10_seekSale_4 rfl (lv_at hl 0 rfl) ?_
  refine x_gr (r := 16) hM hG xfl_X10_9 xct_86 (by decide) rfl dX10_seekSale_5 ?_
  refine x_cVv (As := [.ref (a 16)]) (rest := []) hM hG xml_X10_18 xwi_X4_takeAll xws_X4_takeAll xih_mind.1 (by decide) rfl h (fun S' v e => c_X4_takeAll hM.2.2.2.2.2.2.1 xih_mind xih_hay e _) ⟨Nat.le_of_ble_eq_true rfl, Nat.le_of_ble_eq_true rfl⟩ rfl hl.1 rfl (Nat.le_of_ble_eq_true rfl) dX10_seekSale_8 (fun S_1 v_2 H locs h hG => ?_)
  refine lv_aload_n hx hb dX10_seekSale_11 rfl (lv_at hl 0 rfl) ?_
  refine lv_aload_n hx hb dX10_seekSale_12 rfl (lv_at hl 0 rfl) ?_
  refine x_gr (r := 36) hM hG xfl_X10_15 xct_86 (by decide) rfl dX10_seekSale_13 ?_
  refine x_cVi (As := []) (rest := [.ref (a 86)]) hM hG xml_X10_88 xwi_X4_value xws_X4_value xih_mind.1 (by decide) rfl h (fun S' v e => c_X4_value hM.2.2.2.2.2.2.1 xih_mind e _) ⟨Nat.le_of_ble_eq_true rfl, Nat.le_of_ble_eq_true rfl⟩ rfl hl.1 rfl (Nat.le_of_ble_eq_true rfl) dX10_seekSale_16 (fun S_3 v_4 H locs h hG => ?_)
  refine x_pi hM hG xfl_X10_35 xfp_X10_2 xct_86 (by decide) rfl rfl rfl h dX10_seekSale_19 (fun S_5 H locs h hG => ?_)
  refine lv_aload_n hx hb dX10_seekSale_22 rfl (lv_at hl 0 rfl) ?_
  refine lv_iconst (v := (0 : Int32)) hx hb dX10_seekSale_23 (by decide) ?_
  refine x_pi hM hG xfl_X10_39 xfp_X10_3 xct_86 (by decide) rfl rfl rfl h dX10_seekSale_24 (fun S_6 H locs h hG => ?_)
  refine lv_iconst (v := (1 : Int32)) hx hb dX10_seekSale_27 (by decide) ?_
  refine lv_istore_n (lv' := [(3, .int (1 : Int32)), (0, .ref (a 86)), (1, .int x1), (2, .int x2)]) hx hb dX10_seekSale_28 rfl hl (by decide) rfl (fun ls hl => ?_)
  exact wl_X10_seekSale_29 hM hr hlk (fun t0 e => k0 t0 e) 5000 _ _ _ _ _ h hG (lv_sub hl [1, 2, 3, 0] rfl)
set_option maxHeartbeats 4000000 in
set_option maxRecDepth 100000 in
theorem c_X10_seekSale {l : Launch} {D : va_G} {cy : Nat → ClassId} {a z : Nat → Nat} (hI : xI xtb a) {S : xSt} {x1 : Int32} {x2 : Int32} {S' : xSt} {v' : Unit} (hf : f_X10_seekSale S x1 x2 = some (S', v')) (sz : Nat) : Met l yX10_seekSale (Cond.code yX10_seekSale cX10_seekSale 5 none :: xTB) ({ frames := 4, cells := 0, slots := 0, locals := 102 } : Room) (va_Pc [.ref (a 86), .int x1, .int x2] (xPre D cy xtb a z S sz)) (xQv D cy xtb a S' v' sz) 0 0 (xA xtb a sz) := by
  refine Met.ofW (cc := cX10_seekSale) (maxL := 5) (ret := none) (by decide) rfl ?_
  intro p e s m args below meth c s₁ B hml hv
  obtain ⟨rfl, hsz, hP, hK, hE⟩ := hv
  subst hsz
  have hl := lv_entry ([.ref (a 86), .int x1, .int x2]) (n := 5) (Nat.le_of_ble_eq_true rfl)
  rw [lg_entry_eq]
  generalize (lg_sl ([.ref (a 86), .int x1, .int x2]) ++ List.replicate (5 - (lg_sl ([.ref (a 86), .int x1, .int x2])).length) Slot.unset).toArray = ls at hl ⊢
  have hl : lv_has ls 5 [(0, .ref (a 86)), (1, .int x1), (2, .int x2)] := hl
  exact w_X10_seekSale_0 ⟨B.exec, B.bytes, hml, findClass_of_methodNamed B.named, fun w hw => atoms_spec (ws := Cond.code yX10_seekSale cX10_seekSale 5 none :: xTB) B.pre w (List.mem_cons_of_mem _ hw), hK, hI, hE⟩ B.returns B.notSynchronized hf (fun t0 e => e.symm) ⟨hP, va_S.rf⟩ (lv_sub hl [0, 1, 2] rfl)
set_option maxHeartbeats 4000000 in
set_option maxRecDepth 100000 in
theorem w_X10_seekDrawn_81 {x2 : Int32} {x3 : Int32} {x4 : Int32} {x6 : Int32} {x5 : Int32} {x7 : Int32} (hM : xM p c cX10_seekDrawn m s args RX10 8 D cy xtb a z) (hr : meth.sig.returnType = none) (hlk : meth.locks = false) {S' : xSt} {v' : Unit} {S : xSt} {q : ((xSt × Int32 × Int32) ⊕ ((xSt × Int32 × Int32) ⊕ (xSt × Unit)))} (h : f_X10_seekDrawn_81 x2 x3 x4 x5 x6 x7 S = some q) (k0 : ∀ t0 : xSt × Unit, q = (.inr (.inr t0)) → t0 = (S', v')) (k1 : ∀ (S : xSt) (x5 : Int32) (x6 : Int32), q = (.inr (.inl (S, x5, x6))) → ∀ (H : Heap) (locs : List Loc) (ls : Array Slot), xG D cy xtb a S s H locs → lv_has ls 8 [(0, .ref (a 86)), (2, .int x2), (3, .int x3), (4, .int x4), (5, .int x5), (6, .int x6)] → W p l e ({ frames := 4, cells := 0, slots := 0, locals := 102 } : Room) s m args below meth c H locs 0 0 (MQ below (xQv D cy xtb a S' v' s.heap.size) args s 0 0 (xA xtb a s.heap.size)) (F0 m 16 ls [])) (k2 : ∀ (S : xSt) (x5 : Int32) (x7 : Int32), q = (.inl (S, x5, x7)) → ∀ (H : Heap) (locs : List Loc) (ls : Array Slot), xG D cy xtb a S s H locs → lv_has ls 8 [(0, .ref (a 86)), (2, .int x2), (3, .int x3), (4, .int x4), (5, .int x5), (6, .int x6), (7, .int x7)] → W p l e ({ frames := 4, cells := 0, slots := 0, locals := 102 } : Room) s m args below meth c H locs 0 0 (MQ below (xQv D cy xtb a S' v' s.heap.size) args s 0 0 (xA xtb a s.heap.size)) (F0 m 36 ls [])) {H : Heap} {locs : List Loc} (hG : xG D cy xtb a S s H locs) {ls : Array Slot} (hl : lv_has ls 8 [(0, .ref (a 86)), (2, .int x2), (3, .int x3), (4, .int x4), (5, .int x5), (6, .int x6), (7, .int x7)]) : W p l e ({ frames := 4, cells := 0, slots := 0, locals := 102 } : Room) s m args below meth c H locs 0 0 (MQ below (xQv D cy xtb a S' v' s.heap.size) args s 0 0 (xA xtb a s.heap.size)) (F0 m 81 ls []) := by
  have hx := hM.1
  have hb := hM.2.1
  refine lv_aload_n hx hb dX10_seekDrawn_81 rfl (lv_at hl 0 rfl) ?_
  refine x_gr (r := 36) hM hG xfl_X10_15 xct_86 (by decide) rfl dX10_seekDrawn_82 ?_
  refine x_cVv (As := []) (rest := []) hM hG xml_X10_24 xwi_X4_passDay xws_X4_passDay xih_mind.1 (by decide) rfl h (fun S' v e => c_X4_passDay hM.2.2.2.2.2.2.1 xih_mind e _) ⟨Nat.le_of_ble_eq_true rfl, Nat.le_of_ble_eq_true rfl⟩ rfl hl.1 rfl (Nat.le_of_ble_eq_true rfl) dX10_seekDrawn_85 (fun S_1 v_2 H locs h hG => ?_)
  refine x_iinc hM (fun v => [(7, .int v), (0, .ref (a 86)), (2, .int x2), (3, .int x3), (4, .int x4), (5, .int x5), (6, .int x6)]) h dX10_seekDrawn_88 hl (k := 6) rfl (by decide) (by decide) (fun _ => rfl) (fun v_3 ls h hl => ?_)
  refine lv_goto (tgt := 36) hx hb dX10_seekDrawn_91 (by decide) ?_
  exact k2 _ _ _ (Option.some.inj h).symm _ _ _ hG (lv_sub hl [1, 2, 3, 4, 5, 6, 0] rfl)
set_option maxHeartbeats 4000000 in
set_option maxRecDepth 100000 in
theorem w_X10_seekDrawn_130 {x2 : Int32} {x3 : Int32} {x4 : Int32} {x5 : Int32} {x6 : Int32} (hM : xM p c cX10_seekDrawn m s args RX10 8 D cy xtb a z) (hr : meth.sig.returnType = none) (hlk : meth.locks = false) {S' : xSt} {v' : Unit} {S : xSt} {q : ((xSt × Int32 × Int32) ⊕ (xSt × Unit))} (h : f_X10_seekDrawn_130 x2 x3 x4 x5 x6 S = some q) (k0 : ∀ t0 : xSt × Unit, q = (.inr t0) → t0 = (S', v')) (k1 : ∀ (S : xSt) (x5 : Int32) (x6 : Int32), q = (.inl (S, x5, x6)) → ∀ (H : Heap) (locs : List Loc) (ls : Array Slot), xG D cy xtb a S s H locs → lv_has ls 8 [(0, .ref (a 86)), (2, .int x2), (3, .int x3), (4, .int x4), (5, .int x5), (6, .int x6)] → W p l e ({ frames := 4, cells := 0, slots := 0, locals := 102 } : Room) s m args below meth c H locs 0 0 (MQ below (xQv D cy xtb a S' v' s.heap.size) args s 0 0 (xA xtb a s.heap.size)) (F0 m 16 ls [])) {H : Heap} {locs : List Loc} (hG : xG D cy xtb a S s H locs) {ls : Array Slot} (hl : lv_has ls 8 [(0, .ref (a 86)), (2, .int x2), (3, .int x3), (4, .int x4), (5, .int x5), (6, .int x6)]) : W p l e ({ frames := 4, cells := 0, slots := 0, locals := 102 } : Room) s m args below meth c H locs 0 0 (MQ below (xQv D cy xtb a S' v' s.heap.size) args s 0 0 (xA xtb a s.heap.size)) (F0 m 130 ls []) := by
  have hx := hM.1
  have hb := hM.2.1
  refine x_iinc hM (fun v => [(6, .int v), (0, .ref (a 86)), (2, .int x2), (3, .int x3), (4, .int x4), (5, .int x5)]) h dX10_seekDrawn_130 hl (k := 5) rfl (by decide) (by decide) (fun _ => rfl) (fun v_1 ls h hl => ?_)
  refine lv_goto (tgt := 16) hx hb dX10_seekDrawn_133 (by decide) ?_
  exact k1 _ _ _ (Option.some.inj h).symm _ _ _ hG (lv_sub hl [1, 2, 3, 4, 5, 0] rfl)
set_option maxHeartbeats 4000000 in
set_option maxRecDepth 100000 in
theorem w_X10_seekDrawn_94 {x2 : Int32} {x3 : Int32} {x4 : Int32} {x5 : Int32} {x6 : Int32} (hM : xM p c cX10_seekDrawn m s args RX10 8 D cy xtb a z) (hr : meth.sig.returnType = none) (hlk : meth.locks = false) {S' : xSt} {v' : Unit} {S : xSt} {q : ((xSt × Int32 × Int32) ⊕ (xSt × Unit))} (h : f_X10_seekDrawn_94 x2 x3 x4 x5 x6 S = some q) (k0 : ∀ t0 : xSt × Unit, q = (.inr t0) → t0 = (S', v')) (k1 : ∀ (S : xSt) (x5 : Int32) (x6 : Int32), q = (.inl (S, x5, x6)) → ∀ (H : Heap) (locs : List Loc) (ls : Array Slot), xG D cy xtb a S s H locs → lv_has ls 8 [(0, .ref (a 86)), (2, .int x2), (3, .int x3), (4, .int x4), (5, .int x5), (6, .int x6)] → W p l e ({ frames := 4, cells := 0, slots := 0, locals := 102 } : Room) s m args below meth c H locs 0 0 (MQ below (xQv D cy xtb a S' v' s.heap.size) args s 0 0 (xA xtb a s.heap.size)) (F0 m 16 ls [])) {H : Heap} {locs : List Loc} (hG : xG D cy xtb a S s H locs) {ls : Array Slot} (hl : lv_has ls 8 [(0, .ref (a 86)), (2, .int x2), (3, .int x3), (4, .int x4), (5, .int x5), (6, .int x6)]) : W p l e ({ frames := 4, cells := 0, slots := 0, locals := 102 } : Room) s m args below meth c H locs 0 0 (MQ below (xQv D cy xtb a S' v' s.heap.size) args s 0 0 (xA xtb a s.heap.size)) (F0 m 94 ls []) := by
  have hx := hM.1
  have hb := hM.2.1
  refine lv_aload_n hx hb dX10_seekDrawn_94 rfl (lv_at hl 0 rfl) ?_
  refine lv_dup hx hb dX10_seekDrawn_95 rfl ?_
  refine x_gi hM hG xfl_X10_35 xct_86 (by decide) rfl h dX10_seekDrawn_96 (fun v_1 h => ?_)
  refine lv_aload_n hx hb dX10_seekDrawn_99 rfl (lv_at hl 0 rfl) ?_
  refine x_gr (r := 36) hM hG xfl_X10_15 xct_86 (by decide) rfl dX10_seekDrawn_100 ?_
  refine x_cVi (As := []) (rest := [.int v_1, .ref (a 86)]) hM hG xml_X10_95 xwi_X4_goodOfAll xws_X4_goodOfAll xih_mind.1 (by decide) rfl h (fun S' v e => c_X4_goodOfAll hM.2.2.2.2.2.2.1 xih_mind e _) ⟨Nat.le_of_ble_eq_true rfl, Nat.le_of_ble_eq_true rfl⟩ rfl hl.1 rfl (Nat.le_of_ble_eq_true rfl) dX10_seekDrawn_103 (fun S_2 v_3 H locs h hG => ?_)
  refine x_iadd hM h dX10_seekDrawn_106 (fun v_4 h => ?_)
  refine x_pi hM hG xfl_X10_35 xfp_X10_2 xct_86 (by decide) rfl rfl rfl h dX10_seekDrawn_107 (fun S_5 H locs h hG => ?_)
  refine lv_aload_n hx hb dX10_seekDrawn_110 rfl (lv_at hl 0 rfl) ?_
  refine x_gr (r := 36) hM hG xfl_X10_15 xct_86 (by decide) rfl dX10_seekDrawn_111 ?_
  refine x_cVi (As := []) (rest := []) hM hG xml_X10_85 xwi_X4_glowing xws_X4_glowing xih_mind.1 (by decide) rfl h (fun S' v e => c_X4_glowing hM.2.2.2.2.2.2.1 xih_mind e _) ⟨Nat.le_of_ble_eq_true rfl, Nat.le_of_ble_eq_true rfl⟩ rfl hl.1 rfl (Nat.le_of_ble_eq_true rfl) dX10_seekDrawn_114 (fun S_6 v_7 H locs h hG => ?_)
  refine x_if_le (tgt := 130) hM h dX10_seekDrawn_117 (by decide) (fun c_8 h => ?_) (fun c_8 h => ?_)
  · exact w_X10_seekDrawn_130 hM hr hlk h (fun t0 e => k0 t0 e) (fun S x5 x6 e => k1 S x5 x6 e) hG (lv_sub hl [0, 1, 2, 3, 4, 5] rfl)
  · refine lv_aload_n hx hb dX10_seekDrawn_120 rfl (lv_at hl 0 rfl) ?_
    refine lv_dup hx hb dX10_seekDrawn_121 rfl ?_
    refine x_gi hM hG xfl_X10_39 xct_86 (by decide) rfl h dX10_seekDrawn_122 (fun v_9 h => ?_)
    refine lv_iconst (v := (1 : Int32)) hx hb dX10_seekDrawn_125 (by decide) ?_
    refine x_iadd hM h dX10_seekDrawn_126 (fun v_10 h => ?_)
    refine x_pi hM hG xfl_X10_39 xfp_X10_3 xct_86 (by decide) rfl rfl rfl h dX10_seekDrawn_127 (fun S_11 H locs h hG => ?_)
    exact w_X10_seekDrawn_130 hM hr hlk h (fun t0 e => k0 t0 e) (fun S x5 x6 e => k1 S x5 x6 e) hG (lv_sub hl [0, 1, 2, 3, 4, 5] rfl)
set_option maxHeartbeats 4000000 in
set_option maxRecDepth 100000 in
theorem w_X10_seekDrawn_36 {x2 : Int32} {x3 : Int32} {x4 : Int32} {x6 : Int32} {x5 : Int32} {x7 : Int32} (hM : xM p c cX10_seekDrawn m s args RX10 8 D cy xtb a z) (hr : meth.sig.returnType = none) (hlk : meth.locks = false) {S' : xSt} {v' : Unit} {S : xSt} {q : ((xSt × Int32 × Int32) ⊕ ((xSt × Int32 × Int32) ⊕ (xSt × Unit)))} (h : f_X10_seekDrawn_36 x2 x3 x4 x6 S x5 x7 = some q) (k0 : ∀ t0 : xSt × Unit, q = (.inr (.inr t0)) → t0 = (S', v')) (k1 : ∀ (S : xSt) (x5 : Int32) (x6 : Int32), q = (.inr (.inl (S, x5, x6))) → ∀ (H : Heap) (locs : List Loc) (ls : Array Slot), xG D cy xtb a S s H locs → lv_has ls 8 [(0, .ref (a 86)), (2, .int x2), (3, .int x3), (4, .int x4), (5, .int x5), (6, .int x6)] → W p l e ({ frames := 4, cells := 0, slots := 0, locals := 102 } : Room) s m args below meth c H locs 0 0 (MQ below (xQv D cy xtb a S' v' s.heap.size) args s 0 0 (xA xtb a s.heap.size)) (F0 m 16 ls [])) (k2 : ∀ (S : xSt) (x5 : Int32) (x7 : Int32), q = (.inl (S, x5, x7)) → ∀ (H : Heap) (locs : List Loc) (ls : Array Slot), xG D cy xtb a S s H locs → lv_has ls 8 [(0, .ref (a 86)), (2, .int x2), (3, .int x3), (4, .int x4), (5, .int x5), (6, .int x6), (7, .int x7)] → W p l e ({ frames := 4, cells := 0, slots := 0, locals := 102 } : Room) s m args below meth c H locs 0 0 (MQ below (xQv D cy xtb a S' v' s.heap.size) args s 0 0 (xA xtb a s.heap.size)) (F0 m 36 ls [])) {H : Heap} {locs : List Loc} (hG : xG D cy xtb a S s H locs) {ls : Array Slot} (hl : lv_has ls 8 [(0, .ref (a 86)), (2, .int x2), (3, .int x3), (4, .int x4), (5, .int x5), (6, .int x6), (7, .int x7)]) : W p l e ({ frames := 4, cells := 0, slots := 0, locals := 102 } : Room) s m args below meth c H locs 0 0 (MQ below (xQv D cy xtb a S' v' s.heap.size) args s 0 0 (xA xtb a s.heap.size)) (F0 m 36 ls []) := by
  have hx := hM.1
  have hb := hM.2.1
  refine lv_iload hx hb dX10_seekDrawn_36 (lv_at hl 6 rfl) ?_
  refine lv_iload_n hx hb dX10_seekDrawn_38 rfl (lv_at hl 2 rfl) ?_
  refine x_icmp_ge (tgt := 94) hM h dX10_seekDrawn_39 (by decide) (fun c_1 h => ?_) (fun c_1 h => ?_)
  · obtain ⟨q1, h, e1⟩ := xmr_at h
    exact w_X10_seekDrawn_94 hM hr hlk h (fun t0 e => k0 t0 (by rw [e1, e])) (fun S x5 x6 e => k1 S x5 x6 (by rw [e1, e])) hG (lv_sub hl [0, 1, 2, 3, 4, 5] rfl)
  · refine lv_iload hx hb dX10_seekDrawn_42 (lv_at hl 4 rfl) ?_
    refine lv_ldc (v := (1103515245 : Int32)) hx hb hM.2.2.2.1 (hM.2.2.2.2.1 _ xcn_X10_91) dX10_seekDrawn_44 ?_
    refine x_imul hM h dX10_seekDrawn_46 (fun v_2 h => ?_)
    refine lv_sipush (v := (12345 : Int32)) hx hb dX10_seekDrawn_47 (by decide) ?_
    refine x_iadd hM h dX10_seekDrawn_50 (fun v_3 h => ?_)
    refine lv_istore (lv' := [(5, .int v_3), (0, .ref (a 86)), (2, .int x2), (3, .int x3), (4, .int x4), (6, .int x6), (7, .int x7)]) hx hb dX10_seekDrawn_51 hl (by decide) rfl (fun ls hl => ?_)
    refine lv_iload hx hb dX10_seekDrawn_53 (lv_at hl 0 rfl) ?_
    refine lv_bipush (v := (16 : Int32)) hx hb dX10_seekDrawn_55 (by decide) ?_
    refine x_iushr hM h dX10_seekDrawn_57 (fun v_4 h => ?_)
    refine lv_bipush (v := (12 : Int32)) hx hb dX10_seekDrawn_58 (by decide) ?_
    refine x_irem hM h dX10_seekDrawn_60 (fun v_5 h => ?_)
    refine lv_iload hx hb dX10_seekDrawn_61 (lv_at hl 4 rfl) ?_
    refine x_icmp_ge (tgt := 81) hM h dX10_seekDrawn_63 (by decide) (fun c_6 h => ?_) (fun c_6 h => ?_)
    · exact w_X10_seekDrawn_81 hM hr hlk h (fun t0 e => k0 t0 e) (fun S x5 x6 e => k1 S x5 x6 e) (fun S x5 x7 e => k2 S x5 x7 e) hG (lv_sub hl [1, 2, 3, 4, 0, 5, 6] rfl)
    · refine lv_aload_n hx hb dX10_seekDrawn_66 rfl (lv_at hl 1 rfl) ?_
      refine x_gr (r := 36) hM hG xfl_X10_15 xct_86 (by decide) rfl dX10_seekDrawn_67 ?_
      refine lv_iload hx hb dX10_seekDrawn_70 (lv_at hl 0 rfl) ?_
      refine lv_bipush (v := (8 : Int32)) hx hb dX10_seekDrawn_72 (by decide) ?_
      refine x_iushr hM h dX10_seekDrawn_74 (fun v_7 h => ?_)
      refine lv_bipush (v := (6 : Int32)) hx hb dX10_seekDrawn_75 (by decide) ?_
      refine x_irem hM h dX10_seekDrawn_77 (fun v_8 h => ?_)
      refine x_cVv (As := [.int v_8]) (rest := []) hM hG xml_X10_92 xwi_X4_wetColumn xws_X4_wetColumn xih_mind.1 (by decide) rfl h (fun S' v e => c_X4_wetColumn hM.2.2.2.2.2.2.1 xih_mind e _) ⟨Nat.le_of_ble_eq_true rfl, Nat.le_of_ble_eq_true rfl⟩ rfl hl.1 rfl (Nat.le_of_ble_eq_true rfl) dX10_seekDrawn_78 (fun S_9 v_10 H locs h hG => ?_)
      exact w_X10_seekDrawn_81 hM hr hlk h (fun t0 e => k0 t0 e) (fun S x5 x6 e => k1 S x5 x6 e) (fun S x5 x7 e => k2 S x5 x7 e) hG (lv_sub hl [1, 2, 3, 4, 0, 5, 6] rfl)
theorem wl_X10_seekDrawn_36 {x2 : Int32} {x3 : Int32} {x4 : Int32} {x6 : Int32} (hM : xM p c cX10_seekDrawn m s args RX10 8 D cy xtb a z) (hr : meth.sig.returnType = none) (hlk : meth.locks = false) {S' : xSt} {v' : Unit} {q : ((xSt × Int32 × Int32) ⊕ (xSt × Unit))} (k0 : ∀ t0 : xSt × Unit, q = (.inr t0) → t0 = (S', v')) (k1 : ∀ (S : xSt) (x5 : Int32) (x6 : Int32), q = (.inl (S, x5, x6)) → ∀ (H : Heap) (locs : List Loc) (ls : Array Slot), xG D cy xtb a S s H locs → lv_has ls 8 [(0, .ref (a 86)), (2, .int x2), (3, .int x3), (4, .int x4), (5, .int x5), (6, .int x6)] → W p l e ({ frames := 4, cells := 0, slots := 0, locals := 102 } : Room) s m args below meth c H locs 0 0 (MQ below (xQv D cy xtb a S' v' s.heap.size) args s 0 0 (xA xtb a s.heap.size)) (F0 m 16 ls [])) (n : Nat) : ∀ (S : xSt) (x5 : Int32) (x7 : Int32) (H : Heap) (locs : List Loc) (ls : Array Slot), xlp (fun q : (xSt × Int32 × Int32) => f_X10_seekDrawn_36 x2 x3 x4 x6 q.1 q.2.1 q.2.2) n (S, x5, x7) = some q → xG D cy xtb a S s H locs → lv_has ls 8 [(0, .ref (a 86)), (2, .int x2), (3, .int x3), (4, .int x4), (5, .int x5), (6, .int x6), (7, .int x7)] → W p l e ({ frames := 4, cells := 0, slots := 0, locals := 102 } : Room) s m args below meth c H locs 0 0 (MQ below (xQv D cy xtb a S' v' s.heap.size) args s 0 0 (xA xtb a s.heap.size)) (F0 m 36 ls []) := by
  induction n with
  | zero => intro S x5 x7 H locs ls h; exact (xlp_0 h).elim
  | succ n ih =>
    intro S x5 x7 H locs ls h hG hl
    obtain ⟨q1, hq, hc, he⟩ := xlp_at h
    exact w_X10_seekDrawn_36 hM hr hlk (q := q1) hq (fun t0 e => k0 t0 (he _ e).symm) (fun S x5 x6 e => k1 S x5 x6 (he _ e).symm) (fun S x5 x7 e H locs ls hG hl => ih S x5 x7 H locs ls (hc _ e) hG hl) hG hl
set_option maxHeartbeats 4000000 in
set_option maxRecDepth 100000 in
theorem w_X10_seekDrawn_16 {x2 : Int32} {x3 : Int32} {x4 : Int32} {x5 : Int32} {x6 : Int32} (hM : xM p c cX10_seekDrawn m s args RX10 8 D cy xtb a z) (hr : meth.sig.returnType = none) (hlk : meth.locks = false) {S' : xSt} {v' : Unit} {S : xSt} {q : ((xSt × Int32 × Int32) ⊕ (xSt × Unit))} (h : f_X10_seekDrawn_16 x2 x3 x4 S x5 x6 = some q) (k0 : ∀ t0 : xSt × Unit, q = (.inr t0) → t0 = (S', v')) (k1 : ∀ (S : xSt) (x5 : Int32) (x6 : Int32), q = (.inl (S, x5, x6)) → ∀ (H : Heap) (locs : List Loc) (ls : Array Slot), xG D cy xtb a S s H locs → lv_has ls 8 [(0, .ref (a 86)), (2, .int x2), (3, .int x3), (4, .int x4), (5, .int x5), (6, .int x6)] → W p l e ({ frames := 4, cells := 0, slots := 0, locals := 102 } : Room) s m args below meth c H locs 0 0 (MQ below (xQv D cy xtb a S' v' s.heap.size) args s 0 0 (xA xtb a s.heap.size)) (F0 m 16 ls [])) {H : Heap} {locs : List Loc} (hG : xG D cy xtb a S s H locs) {ls : Array Slot} (hl : lv_has ls 8 [(0, .ref (a 86)), (2, .int x2), (3, .int x3), (4, .int x4), (5, .int x5), (6, .int x6)]) : W p l e ({ frames := 4, cells := 0, slots := 0, locals := 102 } : Room) s m args below meth c H locs 0 0 (MQ below (xQv D cy xtb a S' v' s.heap.size) args s 0 0 (xA xtb a s.heap.size)) (F0 m 16 ls []) := by
  have hx := hM.1
  have hb := hM.2.1
  refine lv_iload hx hb dX10_seekDrawn_16 (lv_at hl 5 rfl) ?_
  refine lv_iload_n hx hb dX10_seekDrawn_18 rfl (lv_at hl 1 rfl) ?_
  refine x_icmp_ge (tgt := 136) hM h dX10_seekDrawn_19 (by decide) (fun c_1 h => ?_) (fun c_1 h => ?_)
  · exact x_rv hM hG hr hlk (k0 _ (Option.some.inj h).symm) dX10_seekDrawn_136
  · refine lv_aload_n hx hb dX10_seekDrawn_22 rfl (lv_at hl 0 rfl) ?_
    refine x_gr (r := 36) hM hG xfl_X10_15 xct_86 (by decide) rfl dX10_seekDrawn_23 ?_
    refine lv_aload_n hx hb dX10_seekDrawn_26 rfl (lv_at hl 0 rfl) ?_
    refine x_gr (r := 16) hM hG xfl_X10_9 xct_86 (by decide) rfl dX10_seekDrawn_27 ?_
    refine x_cVv (As := [.ref (a 16)]) (rest := []) hM hG xml_X10_18 xwi_X4_takeAll xws_X4_takeAll xih_mind.1 (by decide) rfl h (fun S' v e => c_X4_takeAll hM.2.2.2.2.2.2.1 xih_mind xih_hay e _) ⟨Nat.le_of_ble_eq_true rfl, Nat.le_of_ble_eq_true rfl⟩ rfl hl.1 rfl (Nat.le_of_ble_eq_true rfl) dX10_seekDrawn_30 (fun S_2 v_3 H locs h hG => ?_)
    refine lv_iconst (v := (0 : Int32)) hx hb dX10_seekDrawn_33 (by decide) ?_
    refine lv_istore (lv' := [(7, .int (0 : Int32)), (0, .ref (a 86)), (2, .int x2), (3, .int x3), (4, .int x4), (5, .int x5), (6, .int x6)]) hx hb dX10_seekDrawn_34 hl (by decide) rfl (fun ls hl => ?_)
    exact wl_X10_seekDrawn_36 hM hr hlk (fun t0 e => k0 t0 e) (fun S x5 x6 e => k1 S x5 x6 e) 5000 _ _ _ _ _ _ h hG (lv_sub hl [1, 2, 3, 4, 5, 6, 0] rfl)
theorem wl_X10_seekDrawn_16 {x2 : Int32} {x3 : Int32} {x4 : Int32} (hM : xM p c cX10_seekDrawn m s args RX10 8 D cy xtb a z) (hr : meth.sig.returnType = none) (hlk : meth.locks = false) {S' : xSt} {v' : Unit} {q : (xSt × Unit)} (k0 : ∀ t0 : xSt × Unit, q = t0 → t0 = (S', v')) (n : Nat) : ∀ (S : xSt) (x5 : Int32) (x6 : Int32) (H : Heap) (locs : List Loc) (ls : Array Slot), xlp (fun q : (xSt × Int32 × Int32) => f_X10_seekDrawn_16 x2 x3 x4 q.1 q.2.1 q.2.2) n (S, x5, x6) = some q → xG D cy xtb a S s H locs → lv_has ls 8 [(0, .ref (a 86)), (2, .int x2), (3, .int x3), (4, .int x4), (5, .int x5), (6, .int x6)] → W p l e ({ frames := 4, cells := 0, slots := 0, locals := 102 } : Room) s m args below meth c H locs 0 0 (MQ below (xQv D cy xtb a S' v' s.heap.size) args s 0 0 (xA xtb a s.heap.size)) (F0 m 16 ls []) := by
  induction n with
  | zero => intro S x5 x6 H locs ls h; exact (xlp_0 h).elim
  | succ n ih =>
    intro S x5 x6 H locs ls h hG hl
    obtain ⟨q1, hq, hc, he⟩ := xlp_at h
    exact w_X10_seekDrawn_16 hM hr hlk (q := q1) hq (fun t0 e => k0 t0 (he _ e).symm) (fun S x5 x6 e H locs ls hG hl => ih S x5 x6 H locs ls (hc _ e) hG hl) hG hl
set_option maxHeartbeats 4000000 in
set_option maxRecDepth 100000 in
theorem w_X10_seekDrawn_0 {x1 : Int32} {x2 : Int32} {x3 : Int32} {x4 : Int32} (hM : xM p c cX10_seekDrawn m s args RX10 8 D cy xtb a z) (hr : meth.sig.returnType = none) (hlk : meth.locks = false) {S' : xSt} {v' : Unit} {S : xSt} {q : (xSt × Unit)} (h : f_X10_seekDrawn_0 x1 x2 x3 x4 S = some q) (k0 : ∀ t0 : xSt × Unit, q = t0 → t0 = (S', v')) {H : Heap} {locs : List Loc} (hG : xG D cy xtb a S s H locs) {ls : Array Slot} (hl : lv_has ls 8 [(0, .ref (a 86)), (1, .int x1), (2, .int x2), (3, .int x3), (4, .int x4)]) : W p l e ({ frames := 4, cells := 0, slots := 0, locals := 102 } : Room) s m args below meth c H locs 0 0 (MQ below (xQv D cy xtb a S' v' s.heap.size) args s 0 0 (xA xtb a s.heap.size)) (F0 m 0 ls []) := by
  have hx := hM.1
  have hb := hM.2.1
  refine lv_aload_n hx hb dX10_seekDrawn_0 rfl (lv_at hl 0 rfl) ?_
  refine lv_iconst (v := (0 : Int32)) hx hb dX10_seekDrawn_1 (by decide) ?_
  refine x_pi hM hG xfl_X10_35 xfp_X10_2 xct_86 (by decide) rfl rfl rfl h dX10_seekDrawn_2 (fun S_1 H locs h hG => ?_)
  refine lv_aload_n hx hb dX10_seekDrawn_5 rfl (lv_at hl 0 rfl) ?_
  refine lv_iconst (v := (0 : Int32)) hx hb dX10_seekDrawn_6 (by decide) ?_
  refine x_pi hM hG xfl_X10_39 xfp_X10_3 xct_86 (by decide) rfl rfl rfl h dX10_seekDrawn_7 (fun S_2 H locs h hG => ?_)
  refine lv_iload_n hx hb dX10_seekDrawn_10 rfl (lv_at hl 1 rfl) ?_
  refine lv_istore (lv' := [(5, .int x1), (0, .ref (a 86)), (1, .int x1), (2, .int x2), (3, .int x3), (4, .int x4)]) hx hb dX10_seekDrawn_11 hl (by decide) rfl (fun ls hl => ?_)
  refine lv_iconst (v := (0 : Int32)) hx hb dX10_seekDrawn_13 (by decide) ?_
  refine lv_istore (lv' := [(6, .int (0 : Int32)), (5, .int x1), (0, .ref (a 86)), (1, .int x1), (2, .int x2), (3, .int x3), (4, .int x4)]) hx hb dX10_seekDrawn_14 hl (by decide) rfl (fun ls hl => ?_)
  exact wl_X10_seekDrawn_16 hM hr hlk (fun t0 e => k0 t0 e) 5000 _ _ _ _ _ _ h hG (lv_sub hl [2, 4, 5, 6, 1, 0] rfl)
set_option maxHeartbeats 4000000 in
set_option maxRecDepth 100000 in
theorem c_X10_seekDrawn {l : Launch} {D : va_G} {cy : Nat → ClassId} {a z : Nat → Nat} (hI : xI xtb a) {S : xSt} {x1 : Int32} {x2 : Int32} {x3 : Int32} {x4 : Int32} {S' : xSt} {v' : Unit} (hf : f_X10_seekDrawn S x1 x2 x3 x4 = some (S', v')) (sz : Nat) : Met l yX10_seekDrawn (Cond.code yX10_seekDrawn cX10_seekDrawn 8 none :: xTB) ({ frames := 4, cells := 0, slots := 0, locals := 102 } : Room) (va_Pc [.ref (a 86), .int x1, .int x2, .int x3, .int x4] (xPre D cy xtb a z S sz)) (xQv D cy xtb a S' v' sz) 0 0 (xA xtb a sz) := by
  refine Met.ofW (cc := cX10_seekDrawn) (maxL := 8) (ret := none) (by decide) rfl ?_
  intro p e s m args below meth c s₁ B hml hv
  obtain ⟨rfl, hsz, hP, hK, hE⟩ := hv
  subst hsz
  have hl := lv_entry ([.ref (a 86), .int x1, .int x2, .int x3, .int x4]) (n := 8) (Nat.le_of_ble_eq_true rfl)
  rw [lg_entry_eq]
  generalize (lg_sl ([.ref (a 86), .int x1, .int x2, .int x3, .int x4]) ++ List.replicate (8 - (lg_sl ([.ref (a 86), .int x1, .int x2, .int x3, .int x4])).length) Slot.unset).toArray = ls at hl ⊢
  have hl : lv_has ls 8 [(0, .ref (a 86)), (1, .int x1), (2, .int x2), (3, .int x3), (4, .int x4)] := hl
  exact w_X10_seekDrawn_0 ⟨B.exec, B.bytes, hml, findClass_of_methodNamed B.named, fun w hw => atoms_spec (ws := Cond.code yX10_seekDrawn cX10_seekDrawn 8 none :: xTB) B.pre w (List.mem_cons_of_mem _ hw), hK, hI, hE⟩ B.returns B.notSynchronized hf (fun t0 e => e.symm) ⟨hP, va_S.rf⟩ (lv_sub hl [0, 1, 2, 3, 4] rfl)
set_option maxHeartbeats 4000000 in
set_option maxRecDepth 100000 in
theorem w_X11_within_14 (hM : xM p c cX11_within m s args RX11 3 D cy xtb a z) (hr : meth.sig.returnType = (some .boolean)) (hlk : meth.locks = false) {S' : xSt} {v' : Int32} {S : xSt} {q : (xSt × Int32)} (h : f_X11_within_14 S = some q) (k0 : ∀ t0 : xSt × Int32, q = t0 → t0 = (S', v')) {H : Heap} {locs : List Loc} (hG : xG D cy xtb a S s H locs) {ls : Array Slot} (hl : lv_has ls 3 []) : W p l e ({ frames := 0, cells := 0, slots := 0, locals := 0 } : Room) s m args below meth c H locs 0 0 (MQ below (xQi D cy xtb a S' v' s.heap.size) args s 0 0 (xA xtb a s.heap.size)) (F0 m 14 ls []) := by
  have hx := hM.1
  have hb := hM.2.1
  refine lv_iconst (v := (0 : Int32)) hx hb dX11_within_14 (by decide) ?_
  obtain ⟨hz, h⟩ := xgd_at h
  exact x_ri hM hG hr hlk (x_nz hz) (k0 _ (Option.some.inj h).symm) dX11_within_15
set_option maxHeartbeats 4000000 in
set_option maxRecDepth 100000 in
theorem w_X11_within_0 {x0 : Int32} {x1 : Int32} {x2 : Int32} (hM : xM p c cX11_within m s args RX11 3 D cy xtb a z) (hr : meth.sig.returnType = (some .boolean)) (hlk : meth.locks = false) {S' : xSt} {v' : Int32} {S : xSt} {q : (xSt × Int32)} (h : f_X11_within_0 x0 x1 x2 S = some q) (k0 : ∀ t0 : xSt × Int32, q = t0 → t0 = (S', v')) {H : Heap} {locs : List Loc} (hG : xG D cy xtb a S s H locs) {ls : Array Slot} (hl : lv_has ls 3 [(0, .int x0), (1, .int x1), (2, .int x2)]) : W p l e ({ frames := 0, cells := 0, slots := 0, locals := 0 } : Room) s m args below meth c H locs 0 0 (MQ below (xQi D cy xtb a S' v' s.heap.size) args s 0 0 (xA xtb a s.heap.size)) (F0 m 0 ls []) := by
  have hx := hM.1
  have hb := hM.2.1
  refine lv_iload_n hx hb dX11_within_0 rfl (lv_at hl 0 rfl) ?_
  refine lv_iload_n hx hb dX11_within_1 rfl (lv_at hl 1 rfl) ?_
  refine x_icmp_lt (tgt := 14) hM h dX11_within_2 (by decide) (fun c_1 h => ?_) (fun c_1 h => ?_)
  · exact w_X11_within_14 hM hr hlk h (fun t0 e => k0 t0 e) hG (lv_sub hl [] rfl)
  · refine lv_iload_n hx hb dX11_within_5 rfl (lv_at hl 0 rfl) ?_
    refine lv_iload_n hx hb dX11_within_6 rfl (lv_at hl 2 rfl) ?_
    refine x_icmp_gt (tgt := 14) hM h dX11_within_7 (by decide) (fun c_2 h => ?_) (fun c_2 h => ?_)
    · exact w_X11_within_14 hM hr hlk h (fun t0 e => k0 t0 e) hG (lv_sub hl [] rfl)
    · refine lv_iconst (v := (1 : Int32)) hx hb dX11_within_10 (by decide) ?_
      refine lv_goto (tgt := 15) hx hb dX11_within_11 (by decide) ?_
      obtain ⟨hz, h⟩ := xgd_at h
      exact x_ri hM hG hr hlk (x_nz hz) (k0 _ (Option.some.inj h).symm) dX11_within_15
set_option maxHeartbeats 4000000 in
set_option maxRecDepth 100000 in
theorem c_X11_within {l : Launch} {D : va_G} {cy : Nat → ClassId} {a z : Nat → Nat} (hI : xI xtb a) {S : xSt} {x0 : Int32} {x1 : Int32} {x2 : Int32} {S' : xSt} {v' : Int32} (hf : f_X11_within S x0 x1 x2 = some (S', v')) (sz : Nat) : Met l yX11_within (Cond.code yX11_within cX11_within 3 (some .boolean) :: xTB) ({ frames := 0, cells := 0, slots := 0, locals := 0 } : Room) (va_Pc [.int x0, .int x1, .int x2] (xPre D cy xtb a z S sz)) (xQi D cy xtb a S' v' sz) 0 0 (xA xtb a sz) := by
  refine Met.ofW (cc := cX11_within) (maxL := 3) (ret := (some .boolean)) (by decide) rfl ?_
  intro p e s m args below meth c s₁ B hml hv
  obtain ⟨rfl, hsz, hP, hK, hE⟩ := hv
  subst hsz
  have hl := lv_entry ([.int x0, .int x1, .int x2]) (n := 3) (Nat.le_of_ble_eq_true rfl)
  rw [lg_entry_eq]
  generalize (lg_sl ([.int x0, .int x1, .int x2]) ++ List.replicate (3 - (lg_sl ([.int x0, .int x1, .int x2])).length) Slot.unset).toArray = ls at hl ⊢
  have hl : lv_has ls 3 [(0, .int x0), (1, .int x1), (2, .int x2)] := hl
  exact w_X11_within_0 ⟨B.exec, B.bytes, hml, findClass_of_methodNamed B.named, fun w hw => atoms_spec (ws := Cond.code yX11_within cX11_within 3 (some .boolean) :: xTB) B.pre w (List.mem_cons_of_mem _ hw), hK, hI, hE⟩ B.returns B.notSynchronized hf (fun t0 e => e.symm) ⟨hP, va_S.rf⟩ (lv_sub hl [0, 1, 2] rfl)
set_option maxHeartbeats 4000000 in
set_option maxRecDepth 100000 in
theorem w_X11_cartOne_0 {x1 : Int32} {x2 : Int32} {x3 : Int32} (hM : xM p c cX11_cartOne m s args RX11 5 D cy xtb a z) (hr : meth.sig.returnType = (some .int)) (hlk : meth.locks = false) {S' : xSt} {v' : Int32} {S : xSt} {q : (xSt × Int32)} (h : f_X11_cartOne_0 x1 x2 x3 S = some q) (k0 : ∀ t0 : xSt × Int32, q = t0 → t0 = (S', v')) {H : Heap} {locs : List Loc} (hG : xG D cy xtb a S s H locs) {ls : Array Slot} (hl : lv_has ls 5 [(0, .ref (a 0)), (1, .int x1), (2, .int x2), (3, .int x3)]) : W p l e ({ frames := 1, cells := 0, slots := 0, locals := 24 } : Room) s m args below meth c H locs 0 0 (MQ below (xQi D cy xtb a S' v' s.heap.size) args s 0 0 (xA xtb a s.heap.size)) (F0 m 0 ls []) := by
  have hx := hM.1
  have hb := hM.2.1
  refine lv_aload_n hx hb dX11_cartOne_0 rfl (lv_at hl 0 rfl) ?_
  refine x_gr (r := 16) hM hG xfl_X11_28 xct_0 (by decide) rfl dX11_cartOne_1 ?_
  refine lv_iload_n hx hb dX11_cartOne_4 rfl (lv_at hl 1 rfl) ?_
  refine lv_iload_n hx hb dX11_cartOne_5 rfl (lv_at hl 2 rfl) ?_
  refine lv_iload_n hx hb dX11_cartOne_6 rfl (lv_at hl 3 rfl) ?_
  refine x_cVi (As := [.int x1, .int x2, .int x3]) (rest := []) hM hG xml_X11_368 xwi_X4_pileOn xws_X4_pileOn xih_hay.1 (by decide) rfl h (fun S' v e => c_X4_pileOn hM.2.2.2.2.2.2.1 xih_hay e _) ⟨Nat.le_of_ble_eq_true rfl, Nat.le_of_ble_eq_true rfl⟩ rfl hl.1 rfl (Nat.le_of_ble_eq_true rfl) dX11_cartOne_7 (fun S_1 v_2 H locs h hG => ?_)
  refine lv_istore (lv' := [(4, .int v_2), (0, .ref (a 0)), (1, .int x1), (2, .int x2), (3, .int x3)]) hx hb dX11_cartOne_10 hl (by decide) rfl (fun ls hl => ?_)
  refine lv_iload hx hb dX11_cartOne_12 (lv_at hl 0 rfl) ?_
  refine x_if_lt (tgt := 30) hM h dX11_cartOne_14 (by decide) (fun c_3 h => ?_) (fun c_3 h => ?_)
  · refine lv_iload hx hb dX11_cartOne_30 (lv_at hl 0 rfl) ?_
    exact x_ri hM hG hr hlk rfl (k0 _ (Option.some.inj h).symm) dX11_cartOne_32
  · refine lv_aload_n hx hb dX11_cartOne_17 rfl (lv_at hl 1 rfl) ?_
    refine x_gr (r := 16) hM hG xfl_X11_28 xct_0 (by decide) rfl dX11_cartOne_18 ?_
    refine x_gr (r := 16 + 8) hM hG xfl_X11_267 xih_hay.1 (by decide) rfl dX11_cartOne_21 ?_
    refine lv_iconst (v := (0 : Int32)) hx hb dX11_cartOne_24 (by decide) ?_
    refine lv_dup2_11 hx hb dX11_cartOne_25 rfl rfl ?_
    refine x_iald hM hG xih_hay.2.2.2.2.2.2.2.2.1 h dX11_cartOne_26 (fun v_4 h => ?_)
    refine lv_iconst (v := (1 : Int32)) hx hb dX11_cartOne_27 (by decide) ?_
    refine x_iadd hM h dX11_cartOne_28 (fun v_5 h => ?_)
    refine x_iast hM hG xih_hay.2.2.2.2.2.2.2.2.1 h dX11_cartOne_29 (fun S_6 H locs h hG => ?_)
    refine lv_iload hx hb dX11_cartOne_30 (lv_at hl 0 rfl) ?_
    exact x_ri hM hG hr hlk rfl (k0 _ (Option.some.inj h).symm) dX11_cartOne_32
set_option maxHeartbeats 4000000 in
set_option maxRecDepth 100000 in
theorem c_X11_cartOne {l : Launch} {D : va_G} {cy : Nat → ClassId} {a z : Nat → Nat} (hI : xI xtb a) {S : xSt} {x1 : Int32} {x2 : Int32} {x3 : Int32} {S' : xSt} {v' : Int32} (hf : f_X11_cartOne S x1 x2 x3 = some (S', v')) (sz : Nat) : Met l yX11_cartOne (Cond.code yX11_cartOne cX11_cartOne 5 (some .int) :: xTB) ({ frames := 1, cells := 0, slots := 0, locals := 24 } : Room) (va_Pc [.ref (a 0), .int x1, .int x2, .int x3] (xPre D cy xtb a z S sz)) (xQi D cy xtb a S' v' sz) 0 0 (xA xtb a sz) := by
  refine Met.ofW (cc := cX11_cartOne) (maxL := 5) (ret := (some .int)) (by decide) rfl ?_
  intro p e s m args below meth c s₁ B hml hv
  obtain ⟨rfl, hsz, hP, hK, hE⟩ := hv
  subst hsz
  have hl := lv_entry ([.ref (a 0), .int x1, .int x2, .int x3]) (n := 5) (Nat.le_of_ble_eq_true rfl)
  rw [lg_entry_eq]
  generalize (lg_sl ([.ref (a 0), .int x1, .int x2, .int x3]) ++ List.replicate (5 - (lg_sl ([.ref (a 0), .int x1, .int x2, .int x3])).length) Slot.unset).toArray = ls at hl ⊢
  have hl : lv_has ls 5 [(0, .ref (a 0)), (1, .int x1), (2, .int x2), (3, .int x3)] := hl
  exact w_X11_cartOne_0 ⟨B.exec, B.bytes, hml, findClass_of_methodNamed B.named, fun w hw => atoms_spec (ws := Cond.code yX11_cartOne cX11_cartOne 5 (some .int) :: xTB) B.pre w (List.mem_cons_of_mem _ hw), hK, hI, hE⟩ B.returns B.notSynchronized hf (fun t0 e => e.symm) ⟨hP, va_S.rf⟩ (lv_sub hl [0, 1, 2, 3] rfl)
set_option maxHeartbeats 4000000 in
set_option maxRecDepth 100000 in
theorem w_X11_cart_0 {x1 : Int32} {x2 : Int32} (hM : xM p c cX11_cart m s args RX11 3 D cy xtb a z) (hr : meth.sig.returnType = (some .int)) (hlk : meth.locks = false) {S' : xSt} {v' : Int32} {S : xSt} {q : (xSt × Int32)} (h : f_X11_cart_0 x1 x2 S = some q) (k0 : ∀ t0 : xSt × Int32, q = t0 → t0 = (S', v')) {H : Heap} {locs : List Loc} (hG : xG D cy xtb a S s H locs) {ls : Array Slot} (hl : lv_has ls 3 [(0, .ref (a 0)), (1, .int x1), (2, .int x2)]) : W p l e ({ frames := 2, cells := 0, slots := 0, locals := 48 } : Room) s m args below meth c H locs 0 0 (MQ below (xQi D cy xtb a S' v' s.heap.size) args s 0 0 (xA xtb a s.heap.size)) (F0 m 0 ls []) := by
  have hx := hM.1
  have hb := hM.2.1
  refine lv_iload_n hx hb dX11_cart_0 rfl (lv_at hl 1 rfl) ?_
  refine lv_iconst (v := (0 : Int32)) hx hb dX11_cart_1 (by decide) ?_
  refine lv_iconst (v := (5 : Int32)) hx hb dX11_cart_2 (by decide) ?_
  refine x_cSi (As := [.int x1, .int (0 : Int32), .int (5 : Int32)]) (rest := []) hM hG xml_X11_97 xwt_X11_within h (fun S' v e => c_X11_within hM.2.2.2.2.2.2.1 e _) ⟨Nat.le_of_ble_eq_true rfl, Nat.le_of_ble_eq_true rfl⟩ rfl hl.1 rfl (Nat.le_of_ble_eq_true rfl) dX11_cart_3 (fun S_1 v_2 H locs h hG => ?_)
  refine x_if_eq (tgt := 19) hM h dX11_cart_6 (by decide) (fun c_3 h => ?_) (fun c_3 h => ?_)
  · refine lv_iconst (v := (-1 : Int32)) hx hb dX11_cart_19 (by decide) ?_
    exact x_ri hM hG hr hlk rfl (k0 _ (Option.some.inj h).symm) dX11_cart_20
  · refine lv_iload_n hx hb dX11_cart_9 rfl (lv_at hl 2 rfl) ?_
    refine lv_iconst (v := (0 : Int32)) hx hb dX11_cart_10 (by decide) ?_
    refine lv_bipush (v := (99 : Int32)) hx hb dX11_cart_11 (by decide) ?_
    refine x_cSi (As := [.int x2, .int (0 : Int32), .int (99 : Int32)]) (rest := []) hM hG xml_X11_97 xwt_X11_within h (fun S' v e => c_X11_within hM.2.2.2.2.2.2.1 e _) ⟨Nat.le_of_ble_eq_true rfl, Nat.le_of_ble_eq_true rfl⟩ rfl hl.1 rfl (Nat.le_of_ble_eq_true rfl) dX11_cart_13 (fun S_4 v_5 H locs h hG => ?_)
    refine x_if_ne (tgt := 21) hM h dX11_cart_16 (by decide) (fun c_6 h => ?_) (fun c_6 h => ?_)
    · refine lv_aload_n hx hb dX11_cart_21 rfl (lv_at hl 0 rfl) ?_
      refine lv_iload_n hx hb dX11_cart_22 rfl (lv_at hl 1 rfl) ?_
      refine lv_iload_n hx hb dX11_cart_23 rfl (lv_at hl 2 rfl) ?_
      refine lv_bipush (v := (10 : Int32)) hx hb dX11_cart_24 (by decide) ?_
      refine x_idiv hM h dX11_cart_26 (fun v_7 h => ?_)
      refine lv_iload_n hx hb dX11_cart_27 rfl (lv_at hl 2 rfl) ?_
      refine lv_bipush (v := (10 : Int32)) hx hb dX11_cart_28 (by decide) ?_
      refine x_irem hM h dX11_cart_30 (fun v_8 h => ?_)
      refine x_cVi (As := [.int x1, .int v_7, .int v_8]) (rest := []) hM hG xml_X11_101 xwi_X11_cartOne xws_X11_cartOne xct_0 (by decide) rfl h (fun S' v e => c_X11_cartOne hM.2.2.2.2.2.2.1 e _) ⟨Nat.le_of_ble_eq_true rfl, Nat.le_of_ble_eq_true rfl⟩ rfl hl.1 rfl (Nat.le_of_ble_eq_true rfl) dX11_cart_31 (fun S_9 v_10 H locs h hG => ?_)
      exact x_ri hM hG hr hlk rfl (k0 _ (Option.some.inj h).symm) dX11_cart_34
    · refine lv_iconst (v := (-1 : Int32)) hx hb dX11_cart_19 (by decide) ?_
      exact x_ri hM hG hr hlk rfl (k0 _ (Option.some.inj h).symm) dX11_cart_20
set_option maxHeartbeats 4000000 in
set_option maxRecDepth 100000 in
theorem c_X11_cart {l : Launch} {D : va_G} {cy : Nat → ClassId} {a z : Nat → Nat} (hI : xI xtb a) {S : xSt} {x1 : Int32} {x2 : Int32} {S' : xSt} {v' : Int32} (hf : f_X11_cart S x1 x2 = some (S', v')) (sz : Nat) : Met l yX11_cart (Cond.code yX11_cart cX11_cart 3 (some .int) :: xTB) ({ frames := 2, cells := 0, slots := 0, locals := 48 } : Room) (va_Pc [.ref (a 0), .int x1, .int x2] (xPre D cy xtb a z S sz)) (xQi D cy xtb a S' v' sz) 0 0 (xA xtb a sz) := by
  refine Met.ofW (cc := cX11_cart) (maxL := 3) (ret := (some .int)) (by decide) rfl ?_
  intro p e s m args below meth c s₁ B hml hv
  obtain ⟨rfl, hsz, hP, hK, hE⟩ := hv
  subst hsz
  have hl := lv_entry ([.ref (a 0), .int x1, .int x2]) (n := 3) (Nat.le_of_ble_eq_true rfl)
  rw [lg_entry_eq]
  generalize (lg_sl ([.ref (a 0), .int x1, .int x2]) ++ List.replicate (3 - (lg_sl ([.ref (a 0), .int x1, .int x2])).length) Slot.unset).toArray = ls at hl ⊢
  have hl : lv_has ls 3 [(0, .ref (a 0)), (1, .int x1), (2, .int x2)] := hl
  exact w_X11_cart_0 ⟨B.exec, B.bytes, hml, findClass_of_methodNamed B.named, fun w hw => atoms_spec (ws := Cond.code yX11_cart cX11_cart 3 (some .int) :: xTB) B.pre w (List.mem_cons_of_mem _ hw), hK, hI, hE⟩ B.returns B.notSynchronized hf (fun t0 e => e.symm) ⟨hP, va_S.rf⟩ (lv_sub hl [0, 1, 2] rfl)
set_option maxHeartbeats 4000000 in
set_option maxRecDepth 100000 in
theorem w_X11_isShelf_0 {x0 : Int32} (hM : xM p c cX11_isShelf m s args RX11 1 D cy xtb a z) (hr : meth.sig.returnType = (some .boolean)) (hlk : meth.locks = false) {S' : xSt} {v' : Int32} {S : xSt} {q : (xSt × Int32)} (h : f_X11_isShelf_0 x0 S = some q) (k0 : ∀ t0 : xSt × Int32, q = t0 → t0 = (S', v')) {H : Heap} {locs : List Loc} (hG : xG D cy xtb a S s H locs) {ls : Array Slot} (hl : lv_has ls 1 [(0, .int x0)]) : W p l e ({ frames := 1, cells := 0, slots := 0, locals := 22 } : Room) s m args below meth c H locs 0 0 (MQ below (xQi D cy xtb a S' v' s.heap.size) args s 0 0 (xA xtb a s.heap.size)) (F0 m 0 ls []) := by
  have hx := hM.1
  have hb := hM.2.1
  refine lv_iload_n hx hb dX11_isShelf_0 rfl (lv_at hl 0 rfl) ?_
  refine lv_iconst (v := (0 : Int32)) hx hb dX11_isShelf_1 (by decide) ?_
  refine lv_iconst (v := (5 : Int32)) hx hb dX11_isShelf_2 (by decide) ?_
  refine x_cSi (As := [.int x0, .int (0 : Int32), .int (5 : Int32)]) (rest := []) hM hG xml_X11_97 xwt_X11_within h (fun S' v e => c_X11_within hM.2.2.2.2.2.2.1 e _) ⟨Nat.le_of_ble_eq_true rfl, Nat.le_of_ble_eq_true rfl⟩ rfl hl.1 rfl (Nat.le_of_ble_eq_true rfl) dX11_isShelf_3 (fun S_1 v_2 H locs h hG => ?_)
  obtain ⟨hz, h⟩ := xgd_at h
  exact x_ri hM hG hr hlk (x_nz hz) (k0 _ (Option.some.inj h).symm) dX11_isShelf_6
set_option maxHeartbeats 4000000 in
set_option maxRecDepth 100000 in
theorem c_X11_isShelf {l : Launch} {D : va_G} {cy : Nat → ClassId} {a z : Nat → Nat} (hI : xI xtb a) {S : xSt} {x0 : Int32} {S' : xSt} {v' : Int32} (hf : f_X11_isShelf S x0 = some (S', v')) (sz : Nat) : Met l yX11_isShelf (Cond.code yX11_isShelf cX11_isShelf 1 (some .boolean) :: xTB) ({ frames := 1, cells := 0, slots := 0, locals := 22 } : Room) (va_Pc [.int x0] (xPre D cy xtb a z S sz)) (xQi D cy xtb a S' v' sz) 0 0 (xA xtb a sz) := by
  refine Met.ofW (cc := cX11_isShelf) (maxL := 1) (ret := (some .boolean)) (by decide) rfl ?_
  intro p e s m args below meth c s₁ B hml hv
  obtain ⟨rfl, hsz, hP, hK, hE⟩ := hv
  subst hsz
  have hl := lv_entry ([.int x0]) (n := 1) (Nat.le_of_ble_eq_true rfl)
  rw [lg_entry_eq]
  generalize (lg_sl ([.int x0]) ++ List.replicate (1 - (lg_sl ([.int x0])).length) Slot.unset).toArray = ls at hl ⊢
  have hl : lv_has ls 1 [(0, .int x0)] := hl
  exact w_X11_isShelf_0 ⟨B.exec, B.bytes, hml, findClass_of_methodNamed B.named, fun w hw => atoms_spec (ws := Cond.code yX11_isShelf cX11_isShelf 1 (some .boolean) :: xTB) B.pre w (List.mem_cons_of_mem _ hw), hK, hI, hE⟩ B.returns B.notSynchronized hf (fun t0 e => e.symm) ⟨hP, va_S.rf⟩ (lv_sub hl [0] rfl)
set_option maxHeartbeats 4000000 in
set_option maxRecDepth 100000 in
theorem w_X11_cartFrom_119 {o1 : Nat} (ho1 : xIs_X8 o1) {x2 : Int32} {x3 : Int32} {x4 : Int32} {x6 : Int64} {x8 : Int64} {x10 : Int64} {y0 : Int32} (hM : xM p c cX11_cartFrom m s args RX11 13 D cy xtb a z) (hr : meth.sig.returnType = (some .int)) (hlk : meth.locks = false) {S' : xSt} {v' : Int32} {S : xSt} {q : ((xSt × Int32) ⊕ (xSt × Int32))} (h : f_X11_cartFrom_119 o1 x2 x3 x4 x6 x8 x10 y0 S = some q) (k0 : ∀ t0 : xSt × Int32, q = (.inr t0) → t0 = (S', v')) (k1 : ∀ (S : xSt) (x4 : Int32), q = (.inl (S, x4)) → ∀ (H : Heap) (locs : List Loc) (ls : Array Slot), xG D cy xtb a S s H locs → lv_has ls 13 [(0, .ref (a 0)), (1, .ref (a o1)), (2, .int x2), (3, .int x3), (4, .int x4)] → W p l e ({ frames := 2, cells := 0, slots := 0, locals := 48 } : Room) s m args below meth c H locs 0 0 (MQ below (xQi D cy xtb a S' v' s.heap.size) args s 0 0 (xA xtb a s.heap.size)) (F0 m 3 ls [])) {H : Heap} {locs : List Loc} (hG : xG D cy xtb a S s H locs) {ls : Array Slot} (hl : lv_has ls 13 [(0, .ref (a 0)), (1, .ref (a o1)), (2, .int x2), (3, .int x3), (4, .int x4), (6, .long x6), (8, .long x8), (10, .long x10)]) : W p l e ({ frames := 2, cells := 0, slots := 0, locals := 48 } : Room) s m args below meth c H locs 0 0 (MQ below (xQi D cy xtb a S' v' s.heap.size) args s 0 0 (xA xtb a s.heap.size)) (F0 m 119 ls [.int y0]) := by
  have hx := hM.1
  have hb := hM.2.1
  refine lv_istore (lv' := [(12, .int y0), (0, .ref (a 0)), (1, .ref (a o1)), (2, .int x2), (3, .int x3), (4, .int x4), (6, .long x6), (8, .long x8), (10, .long x10)]) hx hb dX11_cartFrom_119 hl (by decide) rfl (fun ls hl => ?_)
  refine lv_iload hx hb dX11_cartFrom_121 (lv_at hl 0 rfl) ?_
  refine x_if_eq (tgt := 142) hM h dX11_cartFrom_123 (by decide) (fun c_1 h => ?_) (fun c_1 h => ?_)
  · refine lv_iload hx hb dX11_cartFrom_142 (lv_at hl 5 rfl) ?_
    exact x_ri hM hG hr hlk rfl (k0 _ (Option.some.inj h).symm) dX11_cartFrom_144
  · refine lv_aload_n hx hb dX11_cartFrom_126 rfl (lv_at hl 1 rfl) ?_
    refine lv_lload hx hb dX11_cartFrom_127 (lv_at hl 6 rfl) ?_
    refine x_l2i hM h dX11_cartFrom_129 (fun v_2 h => ?_)
    refine lv_lload hx hb dX11_cartFrom_130 (lv_at hl 7 rfl) ?_
    refine x_l2i hM h dX11_cartFrom_132 (fun v_3 h => ?_)
    refine lv_lload hx hb dX11_cartFrom_133 (lv_at hl 8 rfl) ?_
    refine x_l2i hM h dX11_cartFrom_135 (fun v_4 h => ?_)
    refine x_cVi (As := [.int v_2, .int v_3, .int v_4]) (rest := []) hM hG xml_X11_101 xwi_X11_cartOne xws_X11_cartOne xct_0 (by decide) rfl h (fun S' v e => c_X11_cartOne hM.2.2.2.2.2.2.1 e _) ⟨Nat.le_of_ble_eq_true rfl, Nat.le_of_ble_eq_true rfl⟩ rfl hl.1 rfl (Nat.le_of_ble_eq_true rfl) dX11_cartFrom_136 (fun S_5 v_6 H locs h hG => ?_)
    refine x_if_ge (tgt := 145) hM h dX11_cartFrom_139 (by decide) (fun c_7 h => ?_) (fun c_7 h => ?_)
    · refine x_iinc hM (fun v => [(4, .int v), (12, .int y0), (0, .ref (a 0)), (1, .ref (a o1)), (2, .int x2), (3, .int x3), (6, .long x6), (8, .long x8), (10, .long x10)]) h dX11_cartFrom_145 hl (k := 5) rfl (by decide) (by decide) (fun _ => rfl) (fun v_8 ls h hl => ?_)
      refine lv_goto (tgt := 3) hx hb dX11_cartFrom_148 (by decide) ?_
      exact k1 _ _ (Option.some.inj h).symm _ _ _ hG (lv_sub hl [2, 3, 4, 5, 0] rfl)
    · refine lv_iload hx hb dX11_cartFrom_142 (lv_at hl 5 rfl) ?_
      exact x_ri hM hG hr hlk rfl (k0 _ (Option.some.inj h).symm) dX11_cartFrom_144
set_option maxHeartbeats 4000000 in
set_option maxRecDepth 100000 in
theorem w_X11_cartFrom_118 {o1 : Nat} (ho1 : xIs_X8 o1) {x2 : Int32} {x3 : Int32} {x4 : Int32} {x6 : Int64} {x8 : Int64} {x10 : Int64} (hM : xM p c cX11_cartFrom m s args RX11 13 D cy xtb a z) (hr : meth.sig.returnType = (some .int)) (hlk : meth.locks = false) {S' : xSt} {v' : Int32} {S : xSt} {q : ((xSt × Int32) ⊕ (xSt × Int32))} (h : f_X11_cartFrom_118 o1 x2 x3 x4 x6 x8 x10 S = some q) (k0 : ∀ t0 : xSt × Int32, q = (.inr t0) → t0 = (S', v')) (k1 : ∀ (S : xSt) (x4 : Int32), q = (.inl (S, x4)) → ∀ (H : Heap) (locs : List Loc) (ls : Array Slot), xG D cy xtb a S s H locs → lv_has ls 13 [(0, .ref (a 0)), (1, .ref (a o1)), (2, .int x2), (3, .int x3), (4, .int x4)] → W p l e ({ frames := 2, cells := 0, slots := 0, locals := 48 } : Room) s m args below meth c H locs 0 0 (MQ below (xQi D cy xtb a S' v' s.heap.size) args s 0 0 (xA xtb a s.heap.size)) (F0 m 3 ls [])) {H : Heap} {locs : List Loc} (hG : xG D cy xtb a S s H locs) {ls : Array Slot} (hl : lv_has ls 13 [(0, .ref (a 0)), (1, .ref (a o1)), (2, .int x2), (3, .int x3), (4, .int x4), (6, .long x6), (8, .long x8), (10, .long x10)]) : W p l e ({ frames := 2, cells := 0, slots := 0, locals := 48 } : Room) s m args below meth c H locs 0 0 (MQ below (xQi D cy xtb a S' v' s.heap.size) args s 0 0 (xA xtb a s.heap.size)) (F0 m 118 ls []) := by
  have hx := hM.1
  have hb := hM.2.1
  refine lv_iconst (v := (0 : Int32)) hx hb dX11_cartFrom_118 (by decide) ?_
  exact w_X11_cartFrom_119 ho1 hM hr hlk h (fun t0 e => k0 t0 e) (fun S x4 e => k1 S x4 e) hG (lv_sub hl [0, 1, 2, 3, 4, 5, 6, 7] rfl)
set_option maxHeartbeats 4000000 in
set_option maxRecDepth 100000 in
theorem w_X11_cartFrom_3 {o1 : Nat} (ho1 : xIs_X8 o1) {x2 : Int32} {x3 : Int32} {x4 : Int32} (hM : xM p c cX11_cartFrom m s args RX11 13 D cy xtb a z) (hr : meth.sig.returnType = (some .int)) (hlk : meth.locks = false) {S' : xSt} {v' : Int32} {S : xSt} {q : ((xSt × Int32) ⊕ (xSt × Int32))} (h : f_X11_cartFrom_3 o1 x2 x3 S x4 = some q) (k0 : ∀ t0 : xSt × Int32, q = (.inr t0) → t0 = (S', v')) (k1 : ∀ (S : xSt) (x4 : Int32), q = (.inl (S, x4)) → ∀ (H : Heap) (locs : List Loc) (ls : Array Slot), xG D cy xtb a S s H locs → lv_has ls 13 [(0, .ref (a 0)), (1, .ref (a o1)), (2, .int x2), (3, .int x3), (4, .int x4)] → W p l e ({ frames := 2, cells := 0, slots := 0, locals := 48 } : Room) s m args below meth c H locs 0 0 (MQ below (xQi D cy xtb a S' v' s.heap.size) args s 0 0 (xA xtb a s.heap.size)) (F0 m 3 ls [])) {H : Heap} {locs : List Loc} (hG : xG D cy xtb a S s H locs) {ls : Array Slot} (hl : lv_has ls 13 [(0, .ref (a 0)), (1, .ref (a o1)), (2, .int x2), (3, .int x3), (4, .int x4)]) : W p l e ({ frames := 2, cells := 0, slots := 0, locals := 48 } : Room) s m args below meth c H locs 0 0 (MQ below (xQi D cy xtb a S' v' s.heap.size) args s 0 0 (xA xtb a s.heap.size)) (F0 m 3 ls []) := by
  have hx := hM.1
  have hb := hM.2.1
  refine lv_iload hx hb dX11_cartFrom_3 (lv_at hl 4 rfl) ?_
  refine lv_iload_n hx hb dX11_cartFrom_5 rfl (lv_at hl 3 rfl) ?_
  refine x_icmp_ge (tgt := 151) hM h dX11_cartFrom_6 (by decide) (fun c_1 h => ?_) (fun c_1 h => ?_)
  · refine lv_iload_n hx hb dX11_cartFrom_151 rfl (lv_at hl 3 rfl) ?_
    exact x_ri hM hG hr hlk rfl (k0 _ (Option.some.inj h).symm) dX11_cartFrom_152
  · refine lv_iload_n hx hb dX11_cartFrom_9 rfl (lv_at hl 2 rfl) ?_
    refine lv_aload_n hx hb dX11_cartFrom_10 rfl (lv_at hl 1 rfl) ?_
    refine x_gi hM hG xfl_X11_371 ho1.1 (by decide) rfl h dX11_cartFrom_11 (fun v_2 h => ?_)
    refine lv_iconst (v := (3 : Int32)) hx hb dX11_cartFrom_14 (by decide) ?_
    refine lv_iload hx hb dX11_cartFrom_15 (lv_at hl 4 rfl) ?_
    refine lv_iconst (v := (1 : Int32)) hx hb dX11_cartFrom_17 (by decide) ?_
    refine x_iadd hM h dX11_cartFrom_18 (fun v_3 h => ?_)
    refine x_imul hM h dX11_cartFrom_19 (fun v_4 h => ?_)
    refine x_isub hM h dX11_cartFrom_20 (fun v_5 h => ?_)
    refine x_icmp_le (tgt := 27) hM h dX11_cartFrom_21 (by decide) (fun c_6 h => ?_) (fun c_6 h => ?_)
    · refine lv_iload_n hx hb dX11_cartFrom_27 rfl (lv_at hl 2 rfl) ?_
      refine lv_iconst (v := (3 : Int32)) hx hb dX11_cartFrom_28 (by decide) ?_
      refine lv_iload hx hb dX11_cartFrom_29 (lv_at hl 4 rfl) ?_
      refine x_imul hM h dX11_cartFrom_31 (fun v_7 h => ?_)
      refine x_iadd hM h dX11_cartFrom_32 (fun v_8 h => ?_)
      refine lv_istore (lv' := [(5, .int v_8), (0, .ref (a 0)), (1, .ref (a o1)), (2, .int x2), (3, .int x3), (4, .int x4)]) hx hb dX11_cartFrom_33 hl (by decide) rfl (fun ls hl => ?_)
      refine lv_aload_n hx hb dX11_cartFrom_35 rfl (lv_at hl 2 rfl) ?_
      refine x_gr (r := o1 + 1) hM hG xfl_X11_327 ho1.1 (by decide) rfl dX11_cartFrom_36 ?_
      refine lv_iload hx hb dX11_cartFrom_39 (lv_at hl 0 rfl) ?_
      refine x_lald hM hG ho1.2 h dX11_cartFrom_41 (fun v_9 h => ?_)
      refine lv_lstore (lv' := [(6, .long v_9), (5, .int v_8), (0, .ref (a 0)), (1, .ref (a o1)), (2, .int x2), (3, .int x3), (4, .int x4)]) hx hb dX11_cartFrom_42 hl (by decide) rfl (fun ls hl => ?_)
      refine lv_aload_n hx hb dX11_cartFrom_44 rfl (lv_at hl 3 rfl) ?_
      refine x_gr (r := o1 + 1) hM hG xfl_X11_327 ho1.1 (by decide) rfl dX11_cartFrom_45 ?_
      refine lv_iload hx hb dX11_cartFrom_48 (lv_at hl 1 rfl) ?_
      refine lv_iconst (v := (1 : Int32)) hx hb dX11_cartFrom_50 (by decide) ?_
      refine x_iadd hM h dX11_cartFrom_51 (fun v_10 h => ?_)
      refine x_lald hM hG ho1.2 h dX11_cartFrom_52 (fun v_11 h => ?_)
      refine lv_lstore (lv' := [(8, .long v_11), (6, .long v_9), (5, .int v_8), (0, .ref (a 0)), (1, .ref (a o1)), (2, .int x2), (3, .int x3), (4, .int x4)]) hx hb dX11_cartFrom_53 hl (by decide) rfl (fun ls hl => ?_)
      refine lv_aload_n hx hb dX11_cartFrom_55 rfl (lv_at hl 4 rfl) ?_
      refine x_gr (r := o1 + 1) hM hG xfl_X11_327 ho1.1 (by decide) rfl dX11_cartFrom_56 ?_
      refine lv_iload hx hb dX11_cartFrom_59 (lv_at hl 2 rfl) ?_
      refine lv_iconst (v := (2 : Int32)) hx hb dX11_cartFrom_61 (by decide) ?_
      refine x_iadd hM h dX11_cartFrom_62 (fun v_12 h => ?_)
      refine x_lald hM hG ho1.2 h dX11_cartFrom_63 (fun v_13 h => ?_)
      refine lv_lstore (lv' := [(10, .long v_13), (8, .long v_11), (6, .long v_9), (5, .int v_8), (0, .ref (a 0)), (1, .ref (a o1)), (2, .int x2), (3, .int x3), (4, .int x4)]) hx hb dX11_cartFrom_64 hl (by decide) rfl (fun ls hl => ?_)
      refine lv_lload hx hb dX11_cartFrom_66 (lv_at hl 2 rfl) ?_
      refine lv_lconst (v := (0 : Int64)) hx hb dX11_cartFrom_68 (by decide) ?_
      refine x_lcmp hM h dX11_cartFrom_69 (fun v_14 h => ?_)
      refine x_if_lt (tgt := 118) hM h dX11_cartFrom_70 (by decide) (fun c_15 h => ?_) (fun c_15 h => ?_)
      · exact w_X11_cartFrom_118 ho1 hM hr hlk h (fun t0 e => k0 t0 e) (fun S x4 e => k1 S x4 e) hG (lv_sub hl [4, 5, 6, 7, 8, 2, 1, 0] rfl)
      · refine lv_lload hx hb dX11_cartFrom_73 (lv_at hl 2 rfl) ?_
        refine lv_ldc2 (v := (6 : Int64)) hx hb hM.2.2.2.1 (hM.2.2.2.2.1 _ xcn_X11_372) dX11_cartFrom_75 ?_
        refine x_lcmp hM h dX11_cartFrom_78 (fun v_16 h => ?_)
        refine x_if_ge (tgt := 118) hM h dX11_cartFrom_79 (by decide) (fun c_17 h => ?_) (fun c_17 h => ?_)
        · exact w_X11_cartFrom_118 ho1 hM hr hlk h (fun t0 e => k0 t0 e) (fun S x4 e => k1 S x4 e) hG (lv_sub hl [4, 5, 6, 7, 8, 2, 1, 0] rfl)
        · refine lv_lload hx hb dX11_cartFrom_82 (lv_at hl 1 rfl) ?_
          refine lv_lconst (v := (0 : Int64)) hx hb dX11_cartFrom_84 (by decide) ?_
          refine x_lcmp hM h dX11_cartFrom_85 (fun v_18 h => ?_)
          refine x_if_lt (tgt := 118) hM h dX11_cartFrom_86 (by decide) (fun c_19 h => ?_) (fun c_19 h => ?_)
          · exact w_X11_cartFrom_118 ho1 hM hr hlk h (fun t0 e => k0 t0 e) (fun S x4 e => k1 S x4 e) hG (lv_sub hl [4, 5, 6, 7, 8, 2, 1, 0] rfl)
          · refine lv_lload hx hb dX11_cartFrom_89 (lv_at hl 1 rfl) ?_
            refine lv_ldc2 (v := (9 : Int64)) hx hb hM.2.2.2.1 (hM.2.2.2.2.1 _ xcn_X11_374) dX11_cartFrom_91 ?_
            refine x_lcmp hM h dX11_cartFrom_94 (fun v_20 h => ?_)
            refine x_if_gt (tgt := 118) hM h dX11_cartFrom_95 (by decide) (fun c_21 h => ?_) (fun c_21 h => ?_)
            · exact w_X11_cartFrom_118 ho1 hM hr hlk h (fun t0 e => k0 t0 e) (fun S x4 e => k1 S x4 e) hG (lv_sub hl [4, 5, 6, 7, 8, 2, 1, 0] rfl)
            · refine lv_lload hx hb dX11_cartFrom_98 (lv_at hl 0 rfl) ?_
              refine lv_lconst (v := (0 : Int64)) hx hb dX11_cartFrom_100 (by decide) ?_
              refine x_lcmp hM h dX11_cartFrom_101 (fun v_22 h => ?_)
              refine x_if_lt (tgt := 118) hM h dX11_cartFrom_102 (by decide) (fun c_23 h => ?_) (fun c_23 h => ?_)
              · exact w_X11_cartFrom_118 ho1 hM hr hlk h (fun t0 e => k0 t0 e) (fun S x4 e => k1 S x4 e) hG (lv_sub hl [4, 5, 6, 7, 8, 2, 1, 0] rfl)
              · refine lv_lload hx hb dX11_cartFrom_105 (lv_at hl 0 rfl) ?_
                refine lv_ldc2 (v := (9 : Int64)) hx hb hM.2.2.2.1 (hM.2.2.2.2.1 _ xcn_X11_374) dX11_cartFrom_107 ?_
                refine x_lcmp hM h dX11_cartFrom_110 (fun v_24 h => ?_)
                refine x_if_gt (tgt := 118) hM h dX11_cartFrom_111 (by decide) (fun c_25 h => ?_) (fun c_25 h => ?_)
                · exact w_X11_cartFrom_118 ho1 hM hr hlk h (fun t0 e => k0 t0 e) (fun S x4 e => k1 S x4 e) hG (lv_sub hl [4, 5, 6, 7, 8, 2, 1, 0] rfl)
                · refine lv_iconst (v := (1 : Int32)) hx hb dX11_cartFrom_114 (by decide) ?_
                  refine lv_goto (tgt := 119) hx hb dX11_cartFrom_115 (by decide) ?_
                  exact w_X11_cartFrom_119 ho1 hM hr hlk h (fun t0 e => k0 t0 e) (fun S x4 e => k1 S x4 e) hG (lv_sub hl [4, 5, 6, 7, 8, 2, 1, 0] rfl)
    · refine lv_iload hx hb dX11_cartFrom_24 (lv_at hl 4 rfl) ?_
      exact x_ri hM hG hr hlk rfl (k0 _ (Option.some.inj h).symm) dX11_cartFrom_26
theorem wl_X11_cartFrom_3 {o1 : Nat} (ho1 : xIs_X8 o1) {x2 : Int32} {x3 : Int32} (hM : xM p c cX11_cartFrom m s args RX11 13 D cy xtb a z) (hr : meth.sig.returnType = (some .int)) (hlk : meth.locks = false) {S' : xSt} {v' : Int32} {q : (xSt × Int32)} (k0 : ∀ t0 : xSt × Int32, q = t0 → t0 = (S', v')) (n : Nat) : ∀ (S : xSt) (x4 : Int32) (H : Heap) (locs : List Loc) (ls : Array Slot), xlp (fun q : (xSt × Int32) => f_X11_cartFrom_3 o1 x2 x3 q.1 q.2) n (S, x4) = some q → xG D cy xtb a S s H locs → lv_has ls 13 [(0, .ref (a 0)), (1, .ref (a o1)), (2, .int x2), (3, .int x3), (4, .int x4)] → W p l e ({ frames := 2, cells := 0, slots := 0, locals := 48 } : Room) s m args below meth c H locs 0 0 (MQ below (xQi D cy xtb a S' v' s.heap.size) args s 0 0 (xA xtb a s.heap.size)) (F0 m 3 ls []) := by
  induction n with
  | zero => intro S x4 H locs ls h; exact (xlp_0 h).elim
  | succ n ih =>
    intro S x4 H locs ls h hG hl
    obtain ⟨q1, hq, hc, he⟩ := xlp_at h
    exact w_X11_cartFrom_3 ho1 hM hr hlk (q := q1) hq (fun t0 e => k0 t0 (he _ e).symm) (fun S x4 e H locs ls hG hl => ih S x4 H locs ls (hc _ e) hG hl) hG hl
set_option maxHeartbeats 4000000 in
set_option maxRecDepth 100000 in
theorem w_X11_cartFrom_0 {o1 : Nat} (ho1 : xIs_X8 o1) {x2 : Int32} {x3 : Int32} (hM : xM p c cX11_cartFrom m s args RX11 13 D cy xtb a z) (hr : meth.sig.returnType = (some .int)) (hlk : meth.locks = false) {S' : xSt} {v' : Int32} {S : xSt} {q : (xSt × Int32)} (h : f_X11_cartFrom_0 o1 x2 x3 S = some q) (k0 : ∀ t0 : xSt × Int32, q = t0 → t0 = (S', v')) {H : Heap} {locs : List Loc} (hG : xG D cy xtb a S s H locs) {ls : Array Slot} (hl : lv_has ls 13 [(0, .ref (a 0)), (1, .ref (a o1)), (2, .int x2), (3, .int x3)]) : W p l e ({ frames := 2, cells := 0, slots := 0, locals := 48 } : Room) s m args below meth c H locs 0 0 (MQ below (xQi D cy xtb a S' v' s.heap.size) args s 0 0 (xA xtb a s.heap.size)) (F0 m 0 ls []) := by
  have hx := hM.1
  have hb := hM.2.1
  refine lv_iconst (v := (0 : Int32)) hx hb dX11_cartFrom_0 (by decide) ?_
  refine lv_istore (lv' := [(4, .int (0 : Int32)), (0, .ref (a 0)), (1, .ref (a o1)), (2, .int x2), (3, .int x3)]) hx hb dX11_cartFrom_1 hl (by decide) rfl (fun ls hl => ?_)
  exact wl_X11_cartFrom_3 ho1 hM hr hlk (fun t0 e => k0 t0 e) 5000 _ _ _ _ _ h hG (lv_sub hl [1, 2, 3, 4, 0] rfl)
set_option maxHeartbeats 4000000 in
set_option maxRecDepth 100000 in
theorem c_X11_cartFrom {l : Launch} {D : va_G} {cy : Nat → ClassId} {a z : Nat → Nat} (hI : xI xtb a) {o1 : Nat} (ho1 : xIs_X8 o1) {S : xSt} {x2 : Int32} {x3 : Int32} {S' : xSt} {v' : Int32} (hf : f_X11_cartFrom o1 S x2 x3 = some (S', v')) (sz : Nat) : Met l yX11_cartFrom (Cond.code yX11_cartFrom cX11_cartFrom 13 (some .int) :: xTB) ({ frames := 2, cells := 0, slots := 0, locals := 48 } : Room) (va_Pc [.ref (a 0), .ref (a o1), .int x2, .int x3] (xPre D cy xtb a z S sz)) (xQi D cy xtb a S' v' sz) 0 0 (xA xtb a sz) := by
  refine Met.ofW (cc := cX11_cartFrom) (maxL := 13) (ret := (some .int)) (by decide) rfl ?_
  intro p e s m args below meth c s₁ B hml hv
  obtain ⟨rfl, hsz, hP, hK, hE⟩ := hv
  subst hsz
  have hl := lv_entry ([.ref (a 0), .ref (a o1), .int x2, .int x3]) (n := 13) (Nat.le_of_ble_eq_true rfl)
  rw [lg_entry_eq]
  generalize (lg_sl ([.ref (a 0), .ref (a o1), .int x2, .int x3]) ++ List.replicate (13 - (lg_sl ([.ref (a 0), .ref (a o1), .int x2, .int x3])).length) Slot.unset).toArray = ls at hl ⊢
  have hl : lv_has ls 13 [(0, .ref (a 0)), (1, .ref (a o1)), (2, .int x2), (3, .int x3)] := hl
  exact w_X11_cartFrom_0 ho1 ⟨B.exec, B.bytes, hml, findClass_of_methodNamed B.named, fun w hw => atoms_spec (ws := Cond.code yX11_cartFrom cX11_cartFrom 13 (some .int) :: xTB) B.pre w (List.mem_cons_of_mem _ hw), hK, hI, hE⟩ B.returns B.notSynchronized hf (fun t0 e => e.symm) ⟨hP, va_S.rf⟩ (lv_sub hl [0, 1, 2, 3] rfl)
set_option maxHeartbeats 4000000 in
set_option maxRecDepth 100000 in
theorem w_X11_loads_0 {x1 : Int32} {x2 : Int32} {x3 : Int32} (hM : xM p c cX11_loads m s args RX11 5 D cy xtb a z) (hr : meth.sig.returnType = (some .int)) (hlk : meth.locks = false) {S' : xSt} {v' : Int32} {S : xSt} {q : (xSt × Int32)} (h : f_X11_loads_0 x1 x2 x3 S = some q) (k0 : ∀ t0 : xSt × Int32, q = t0 → t0 = (S', v')) {H : Heap} {locs : List Loc} (hG : xG D cy xtb a S s H locs) {ls : Array Slot} (hl : lv_has ls 5 [(0, .ref (a 0)), (1, .int x1), (2, .int x2), (3, .int x3)]) : W p l e ({ frames := 3, cells := 0, slots := 0, locals := 80 } : Room) s m args below meth c H locs 0 0 (MQ below (xQi D cy xtb a S' v' s.heap.size) args s 0 0 (xA xtb a s.heap.size)) (F0 m 0 ls []) := by
  have hx := hM.1
  have hb := hM.2.1
  refine lv_iload_n hx hb dX11_loads_0 rfl (lv_at hl 1 rfl) ?_
  refine x_cSi (As := [.int x1]) (rest := []) hM hG xml_X11_105 xwt_X11_isShelf h (fun S' v e => c_X11_isShelf hM.2.2.2.2.2.2.1 e _) ⟨Nat.le_of_ble_eq_true rfl, Nat.le_of_ble_eq_true rfl⟩ rfl hl.1 rfl (Nat.le_of_ble_eq_true rfl) dX11_loads_1 (fun S_1 v_2 H locs h hG => ?_)
  refine x_if_eq (tgt := 17) hM h dX11_loads_4 (by decide) (fun c_3 h => ?_) (fun c_3 h => ?_)
  · refine lv_iconst (v := (-1 : Int32)) hx hb dX11_loads_17 (by decide) ?_
    exact x_ri hM hG hr hlk rfl (k0 _ (Option.some.inj h).symm) dX11_loads_18
  · refine lv_iload_n hx hb dX11_loads_7 rfl (lv_at hl 3 rfl) ?_
    refine lv_iconst (v := (1 : Int32)) hx hb dX11_loads_8 (by decide) ?_
    refine lv_bipush (v := (20 : Int32)) hx hb dX11_loads_9 (by decide) ?_
    refine x_cSi (As := [.int x3, .int (1 : Int32), .int (20 : Int32)]) (rest := []) hM hG xml_X11_97 xwt_X11_within h (fun S' v e => c_X11_within hM.2.2.2.2.2.2.1 e _) ⟨Nat.le_of_ble_eq_true rfl, Nat.le_of_ble_eq_true rfl⟩ rfl hl.1 rfl (Nat.le_of_ble_eq_true rfl) dX11_loads_11 (fun S_4 v_5 H locs h hG => ?_)
    refine x_if_ne (tgt := 19) hM h dX11_loads_14 (by decide) (fun c_6 h => ?_) (fun c_6 h => ?_)
    · refine lv_aload_n hx hb dX11_loads_19 rfl (lv_at hl 0 rfl) ?_
      refine x_gr (r := 1) hM hG xfl_X11_92 xct_0 (by decide) rfl dX11_loads_20 ?_
      refine lv_iload_n hx hb dX11_loads_23 rfl (lv_at hl 1 rfl) ?_
      refine x_aald5 hM hG xct_1 h dX11_loads_24 (fun hi_7 h => ?_)
      refine x_cVi (As := []) (rest := []) hM hG xml_X11_109 xwi_X8_refusalOfBytes xws_X8_refusalOfBytes (xih_shelf hi_7).1 (by decide) rfl h (fun S' v e => c_X8_refusalOfBytes hM.2.2.2.2.2.2.1 (xih_shelf hi_7) e _) ⟨Nat.le_of_ble_eq_true rfl, Nat.le_of_ble_eq_true rfl⟩ rfl hl.1 rfl (Nat.le_of_ble_eq_true rfl) dX11_loads_25 (fun S_8 v_9 H locs h hG => ?_)
      refine lv_istore (lv' := [(4, .int v_9), (0, .ref (a 0)), (1, .int x1), (2, .int x2), (3, .int x3)]) hx hb dX11_loads_28 hl (by decide) rfl (fun ls hl => ?_)
      refine lv_iload hx hb dX11_loads_30 (lv_at hl 0 rfl) ?_
      refine lv_bipush (v := (-12 : Int32)) hx hb dX11_loads_32 (by decide) ?_
      refine x_icmp_ne (tgt := 40) hM h dX11_loads_34 (by decide) (fun c_10 h => ?_) (fun c_10 h => ?_)
      · refine lv_iload hx hb dX11_loads_40 (lv_at hl 0 rfl) ?_
        refine x_if_ne (tgt := 49) hM h dX11_loads_42 (by decide) (fun c_11 h => ?_) (fun c_11 h => ?_)
        · refine lv_iconst (v := (0 : Int32)) hx hb dX11_loads_49 (by decide) ?_
          exact x_ri hM hG hr hlk rfl (k0 _ (Option.some.inj h).symm) dX11_loads_50
        · refine lv_iload_n hx hb dX11_loads_45 rfl (lv_at hl 3 rfl) ?_
          refine x_if_ge (tgt := 51) hM h dX11_loads_46 (by decide) (fun c_12 h => ?_) (fun c_12 h => ?_)
          · refine lv_aload_n hx hb dX11_loads_51 rfl (lv_at hl 1 rfl) ?_
            refine lv_aload_n hx hb dX11_loads_52 rfl (lv_at hl 1 rfl) ?_
            refine x_gr (r := 1) hM hG xfl_X11_92 xct_0 (by decide) rfl dX11_loads_53 ?_
            refine lv_iload_n hx hb dX11_loads_56 rfl (lv_at hl 2 rfl) ?_
            refine x_aald5 hM hG xct_1 h dX11_loads_57 (fun hi_13 h => ?_)
            refine lv_iload_n hx hb dX11_loads_58 rfl (lv_at hl 3 rfl) ?_
            refine lv_iload_n hx hb dX11_loads_59 rfl (lv_at hl 4 rfl) ?_
            refine x_cVi (As := [.ref (a (104 + 2 * x1.toNatClampNeg)), .int x2, .int x3]) (rest := []) hM hG xml_X11_113 xwi_X11_cartFrom xws_X11_cartFrom xct_0 (by decide) rfl h (fun S' v e => c_X11_cartFrom hM.2.2.2.2.2.2.1 (xih_shelf hi_13) e _) ⟨Nat.le_of_ble_eq_true rfl, Nat.le_of_ble_eq_true rfl⟩ rfl hl.1 rfl (Nat.le_of_ble_eq_true rfl) dX11_loads_60 (fun S_14 v_15 H locs h hG => ?_)
            exact x_ri hM hG hr hlk rfl (k0 _ (Option.some.inj h).symm) dX11_loads_63
          · refine lv_iconst (v := (0 : Int32)) hx hb dX11_loads_49 (by decide) ?_
            exact x_ri hM hG hr hlk rfl (k0 _ (Option.some.inj h).symm) dX11_loads_50
      · refine lv_bipush (v := (-12 : Int32)) hx hb dX11_loads_37 (by decide) ?_
        exact x_ri hM hG hr hlk rfl (k0 _ (Option.some.inj h).symm) dX11_loads_39
    · refine lv_iconst (v := (-1 : Int32)) hx hb dX11_loads_17 (by decide) ?_
      exact x_ri hM hG hr hlk rfl (k0 _ (Option.some.inj h).symm) dX11_loads_18
set_option maxHeartbeats 4000000 in
set_option maxRecDepth 100000 in
theorem c_X11_loads {l : Launch} {D : va_G} {cy : Nat → ClassId} {a z : Nat → Nat} (hI : xI xtb a) {S : xSt} {x1 : Int32} {x2 : Int32} {x3 : Int32} {S' : xSt} {v' : Int32} (hf : f_X11_loads S x1 x2 x3 = some (S', v')) (sz : Nat) : Met l yX11_loads (Cond.code yX11_loads cX11_loads 5 (some .int) :: xTB) ({ frames := 3, cells := 0, slots := 0, locals := 80 } : Room) (va_Pc [.ref (a 0), .int x1, .int x2, .int x3] (xPre D cy xtb a z S sz)) (xQi D cy xtb a S' v' sz) 0 0 (xA xtb a sz) := by
  refine Met.ofW (cc := cX11_loads) (maxL := 5) (ret := (some .int)) (by decide) rfl ?_
  intro p e s m args below meth c s₁ B hml hv
  obtain ⟨rfl, hsz, hP, hK, hE⟩ := hv
  subst hsz
  have hl := lv_entry ([.ref (a 0), .int x1, .int x2, .int x3]) (n := 5) (Nat.le_of_ble_eq_true rfl)
  rw [lg_entry_eq]
  generalize (lg_sl ([.ref (a 0), .int x1, .int x2, .int x3]) ++ List.replicate (5 - (lg_sl ([.ref (a 0), .int x1, .int x2, .int x3])).length) Slot.unset).toArray = ls at hl ⊢
  have hl : lv_has ls 5 [(0, .ref (a 0)), (1, .int x1), (2, .int x2), (3, .int x3)] := hl
  exact w_X11_loads_0 ⟨B.exec, B.bytes, hml, findClass_of_methodNamed B.named, fun w hw => atoms_spec (ws := Cond.code yX11_loads cX11_loads 5 (some .int) :: xTB) B.pre w (List.mem_cons_of_mem _ hw), hK, hI, hE⟩ B.returns B.notSynchronized hf (fun t0 e => e.symm) ⟨hP, va_S.rf⟩ (lv_sub hl [0, 1, 2, 3] rfl)
set_option maxHeartbeats 4000000 in
set_option maxRecDepth 100000 in
theorem w_X11_isNumber_0 {x1 : Int32} {x2 : Int32} (hM : xM p c cX11_isNumber m s args RX11 3 D cy xtb a z) (hr : meth.sig.returnType = (some .boolean)) (hlk : meth.locks = false) {S' : xSt} {v' : Int32} {S : xSt} {q : (xSt × Int32)} (h : f_X11_isNumber_0 x1 x2 S = some q) (k0 : ∀ t0 : xSt × Int32, q = t0 → t0 = (S', v')) {H : Heap} {locs : List Loc} (hG : xG D cy xtb a S s H locs) {ls : Array Slot} (hl : lv_has ls 3 [(0, .ref (a 0)), (1, .int x1), (2, .int x2)]) : W p l e ({ frames := 1, cells := 0, slots := 0, locals := 22 } : Room) s m args below meth c H locs 0 0 (MQ below (xQi D cy xtb a S' v' s.heap.size) args s 0 0 (xA xtb a s.heap.size)) (F0 m 0 ls []) := by
  have hx := hM.1
  have hb := hM.2.1
  refine lv_iload_n hx hb dX11_isNumber_0 rfl (lv_at hl 2 rfl) ?_
  refine lv_iconst (v := (0 : Int32)) hx hb dX11_isNumber_1 (by decide) ?_
  refine lv_bipush (v := (7 : Int32)) hx hb dX11_isNumber_2 (by decide) ?_
  refine x_cSi (As := [.int x2, .int (0 : Int32), .int (7 : Int32)]) (rest := []) hM hG xml_X11_97 xwt_X11_within h (fun S' v e => c_X11_within hM.2.2.2.2.2.2.1 e _) ⟨Nat.le_of_ble_eq_true rfl, Nat.le_of_ble_eq_true rfl⟩ rfl hl.1 rfl (Nat.le_of_ble_eq_true rfl) dX11_isNumber_4 (fun S_1 v_2 H locs h hG => ?_)
  refine x_if_ne (tgt := 12) hM h dX11_isNumber_7 (by decide) (fun c_3 h => ?_) (fun c_3 h => ?_)
  · refine lv_iload_n hx hb dX11_isNumber_12 rfl (lv_at hl 2 rfl) ?_
    refine lv_iconst (v := (4 : Int32)) hx hb dX11_isNumber_13 (by decide) ?_
    refine x_icmp_gt (tgt := 26) hM h dX11_isNumber_14 (by decide) (fun c_4 h => ?_) (fun c_4 h => ?_)
    · refine lv_iload_n hx hb dX11_isNumber_26 rfl (lv_at hl 2 rfl) ?_
      refine lv_iconst (v := (5 : Int32)) hx hb dX11_isNumber_27 (by decide) ?_
      refine x_icmp_ne (tgt := 40) hM h dX11_isNumber_28 (by decide) (fun c_5 h => ?_) (fun c_5 h => ?_)
      · refine lv_iload_n hx hb dX11_isNumber_40 rfl (lv_at hl 1 rfl) ?_
        refine x_if_ne (tgt := 48) hM h dX11_isNumber_41 (by decide) (fun c_6 h => ?_) (fun c_6 h => ?_)
        · refine lv_iconst (v := (0 : Int32)) hx hb dX11_isNumber_48 (by decide) ?_
          obtain ⟨hz, h⟩ := xgd_at h
          exact x_ri hM hG hr hlk (x_nz hz) (k0 _ (Option.some.inj h).symm) dX11_isNumber_49
        · refine lv_iconst (v := (1 : Int32)) hx hb dX11_isNumber_44 (by decide) ?_
          refine lv_goto (tgt := 49) hx hb dX11_isNumber_45 (by decide) ?_
          obtain ⟨hz, h⟩ := xgd_at h
          exact x_ri hM hG hr hlk (x_nz hz) (k0 _ (Option.some.inj h).symm) dX11_isNumber_49
      · refine lv_iload_n hx hb dX11_isNumber_31 rfl (lv_at hl 1 rfl) ?_
        refine lv_iconst (v := (0 : Int32)) hx hb dX11_isNumber_32 (by decide) ?_
        refine lv_iconst (v := (5 : Int32)) hx hb dX11_isNumber_33 (by decide) ?_
        refine x_cSi (As := [.int x1, .int (0 : Int32), .int (5 : Int32)]) (rest := []) hM hG xml_X11_97 xwt_X11_within h (fun S' v e => c_X11_within hM.2.2.2.2.2.2.1 e _) ⟨Nat.le_of_ble_eq_true rfl, Nat.le_of_ble_eq_true rfl⟩ rfl hl.1 rfl (Nat.le_of_ble_eq_true rfl) dX11_isNumber_34 (fun S_7 v_8 H locs h hG => ?_)
        refine lv_goto (tgt := 49) hx hb dX11_isNumber_37 (by decide) ?_
        obtain ⟨hz, h⟩ := xgd_at h
        exact x_ri hM hG hr hlk (x_nz hz) (k0 _ (Option.some.inj h).symm) dX11_isNumber_49
    · refine lv_aload_n hx hb dX11_isNumber_17 rfl (lv_at hl 0 rfl) ?_
      refine x_gr (r := 16) hM hG xfl_X11_28 xct_0 (by decide) rfl dX11_isNumber_18 ?_
      refine lv_iload_n hx hb dX11_isNumber_21 rfl (lv_at hl 1 rfl) ?_
      refine x_cVi (As := [.int x1]) (rest := []) hM hG xml_X11_156 xwi_X4_has xws_X4_has xih_hay.1 (by decide) rfl h (fun S' v e => c_X4_has hM.2.2.2.2.2.2.1 xih_hay e _) ⟨Nat.le_of_ble_eq_true rfl, Nat.le_of_ble_eq_true rfl⟩ rfl hl.1 rfl (Nat.le_of_ble_eq_true rfl) dX11_isNumber_22 (fun S_9 v_10 H locs h hG => ?_)
      obtain ⟨hz, h⟩ := xgd_at h
      exact x_ri hM hG hr hlk (x_nz hz) (k0 _ (Option.some.inj h).symm) dX11_isNumber_25
  · refine lv_iconst (v := (0 : Int32)) hx hb dX11_isNumber_10 (by decide) ?_
    obtain ⟨hz, h⟩ := xgd_at h
    exact x_ri hM hG hr hlk (x_nz hz) (k0 _ (Option.some.inj h).symm) dX11_isNumber_11
set_option maxHeartbeats 4000000 in
set_option maxRecDepth 100000 in
theorem c_X11_isNumber {l : Launch} {D : va_G} {cy : Nat → ClassId} {a z : Nat → Nat} (hI : xI xtb a) {S : xSt} {x1 : Int32} {x2 : Int32} {S' : xSt} {v' : Int32} (hf : f_X11_isNumber S x1 x2 = some (S', v')) (sz : Nat) : Met l yX11_isNumber (Cond.code yX11_isNumber cX11_isNumber 3 (some .boolean) :: xTB) ({ frames := 1, cells := 0, slots := 0, locals := 22 } : Room) (va_Pc [.ref (a 0), .int x1, .int x2] (xPre D cy xtb a z S sz)) (xQi D cy xtb a S' v' sz) 0 0 (xA xtb a sz) := by
  refine Met.ofW (cc := cX11_isNumber) (maxL := 3) (ret := (some .boolean)) (by decide) rfl ?_
  intro p e s m args below meth c s₁ B hml hv
  obtain ⟨rfl, hsz, hP, hK, hE⟩ := hv
  subst hsz
  have hl := lv_entry ([.ref (a 0), .int x1, .int x2]) (n := 3) (Nat.le_of_ble_eq_true rfl)
  rw [lg_entry_eq]
  generalize (lg_sl ([.ref (a 0), .int x1, .int x2]) ++ List.replicate (3 - (lg_sl ([.ref (a 0), .int x1, .int x2])).length) Slot.unset).toArray = ls at hl ⊢
  have hl : lv_has ls 3 [(0, .ref (a 0)), (1, .int x1), (2, .int x2)] := hl
  exact w_X11_isNumber_0 ⟨B.exec, B.bytes, hml, findClass_of_methodNamed B.named, fun w hw => atoms_spec (ws := Cond.code yX11_isNumber cX11_isNumber 3 (some .boolean) :: xTB) B.pre w (List.mem_cons_of_mem _ hw), hK, hI, hE⟩ B.returns B.notSynchronized hf (fun t0 e => e.symm) ⟨hP, va_S.rf⟩ (lv_sub hl [0, 1, 2] rfl)
set_option maxHeartbeats 4000000 in
set_option maxRecDepth 100000 in
theorem w_X11_mend_0 {x1 : Int32} {x2 : Int32} {x3 : Int32} (hM : xM p c cX11_mend m s args RX11 5 D cy xtb a z) (hr : meth.sig.returnType = (some .int)) (hlk : meth.locks = false) {S' : xSt} {v' : Int32} {S : xSt} {q : (xSt × Int32)} (h : f_X11_mend_0 x1 x2 x3 S = some q) (k0 : ∀ t0 : xSt × Int32, q = t0 → t0 = (S', v')) {H : Heap} {locs : List Loc} (hG : xG D cy xtb a S s H locs) {ls : Array Slot} (hl : lv_has ls 5 [(0, .ref (a 0)), (1, .int x1), (2, .int x2), (3, .int x3)]) : W p l e ({ frames := 3, cells := 0, slots := 0, locals := 70 } : Room) s m args below meth c H locs 0 0 (MQ below (xQi D cy xtb a S' v' s.heap.size) args s 0 0 (xA xtb a s.heap.size)) (F0 m 0 ls []) := by
  have hx := hM.1
  have hb := hM.2.1
  refine lv_aload_n hx hb dX11_mend_0 rfl (lv_at hl 0 rfl) ?_
  refine lv_iload_n hx hb dX11_mend_1 rfl (lv_at hl 1 rfl) ?_
  refine lv_iload_n hx hb dX11_mend_2 rfl (lv_at hl 2 rfl) ?_
  refine x_cVi (As := [.int x1, .int x2]) (rest := []) hM hG xml_X11_117 xwi_X11_isNumber xws_X11_isNumber xct_0 (by decide) rfl h (fun S' v e => c_X11_isNumber hM.2.2.2.2.2.2.1 e _) ⟨Nat.le_of_ble_eq_true rfl, Nat.le_of_ble_eq_true rfl⟩ rfl hl.1 rfl (Nat.le_of_ble_eq_true rfl) dX11_mend_3 (fun S_1 v_2 H locs h hG => ?_)
  refine x_if_eq (tgt := 26) hM h dX11_mend_6 (by decide) (fun c_3 h => ?_) (fun c_3 h => ?_)
  · refine lv_iconst (v := (-1 : Int32)) hx hb dX11_mend_26 (by decide) ?_
    exact x_ri hM hG hr hlk rfl (k0 _ (Option.some.inj h).symm) dX11_mend_27
  · refine lv_iload_n hx hb dX11_mend_9 rfl (lv_at hl 3 rfl) ?_
    refine x_gs hM hG hM.2.2.2.2.2.2.2.2.1 xsl_X11_121 dX11_mend_10 ?_
    refine lv_iload_n hx hb dX11_mend_13 rfl (lv_at hl 2 rfl) ?_
    refine x_tald hM hG hM.2.2.2.2.2.2.2.2.1 h dX11_mend_14 (fun v_4 h => ?_)
    refine x_gs hM hG hM.2.2.2.2.2.2.2.2.2.1 xsl_X11_125 dX11_mend_15 ?_
    refine lv_iload_n hx hb dX11_mend_18 rfl (lv_at hl 2 rfl) ?_
    refine x_tald hM hG hM.2.2.2.2.2.2.2.2.2.1 h dX11_mend_19 (fun v_5 h => ?_)
    refine x_cSi (As := [.int x3, .int v_4, .int v_5]) (rest := []) hM hG xml_X11_97 xwt_X11_within h (fun S' v e => c_X11_within hM.2.2.2.2.2.2.1 e _) ⟨Nat.le_of_ble_eq_true rfl, Nat.le_of_ble_eq_true rfl⟩ rfl hl.1 rfl (Nat.le_of_ble_eq_true rfl) dX11_mend_20 (fun S_6 v_7 H locs h hG => ?_)
    refine x_if_ne (tgt := 28) hM h dX11_mend_23 (by decide) (fun c_8 h => ?_) (fun c_8 h => ?_)
    · refine lv_aload_n hx hb dX11_mend_28 rfl (lv_at hl 0 rfl) ?_
      refine x_gr (r := 16) hM hG xfl_X11_28 xct_0 (by decide) rfl dX11_mend_29 ?_
      refine lv_iload_n hx hb dX11_mend_32 rfl (lv_at hl 1 rfl) ?_
      refine lv_iload_n hx hb dX11_mend_33 rfl (lv_at hl 2 rfl) ?_
      refine x_cVi (As := [.int x1, .int x2]) (rest := []) hM hG xml_X11_128 xwi_X4_numberOf xws_X4_numberOf xih_hay.1 (by decide) rfl h (fun S' v e => c_X4_numberOf hM.2.2.2.2.2.2.1 xih_hay e _) ⟨Nat.le_of_ble_eq_true rfl, Nat.le_of_ble_eq_true rfl⟩ rfl hl.1 rfl (Nat.le_of_ble_eq_true rfl) dX11_mend_34 (fun S_9 v_10 H locs h hG => ?_)
      refine lv_istore (lv' := [(4, .int v_10), (0, .ref (a 0)), (1, .int x1), (2, .int x2), (3, .int x3)]) hx hb dX11_mend_37 hl (by decide) rfl (fun ls hl => ?_)
      refine lv_iload hx hb dX11_mend_39 (lv_at hl 0 rfl) ?_
      refine lv_iload_n hx hb dX11_mend_41 rfl (lv_at hl 4 rfl) ?_
      refine x_icmp_eq (tgt := 67) hM h dX11_mend_42 (by decide) (fun c_11 h => ?_) (fun c_11 h => ?_)
      · refine lv_iload hx hb dX11_mend_67 (lv_at hl 0 rfl) ?_
        exact x_ri hM hG hr hlk rfl (k0 _ (Option.some.inj h).symm) dX11_mend_69
      · refine lv_aload_n hx hb dX11_mend_45 rfl (lv_at hl 1 rfl) ?_
        refine x_gr (r := 16) hM hG xfl_X11_28 xct_0 (by decide) rfl dX11_mend_46 ?_
        refine lv_iload_n hx hb dX11_mend_49 rfl (lv_at hl 2 rfl) ?_
        refine lv_iload_n hx hb dX11_mend_50 rfl (lv_at hl 3 rfl) ?_
        refine lv_iload_n hx hb dX11_mend_51 rfl (lv_at hl 4 rfl) ?_
        refine x_cVv (As := [.int x1, .int x2, .int x3]) (rest := []) hM hG xml_X11_132 xwi_X4_tell xws_X4_tell xih_hay.1 (by decide) rfl h (fun S' v e => c_X4_tell hM.2.2.2.2.2.2.1 xih_hay e _) ⟨Nat.le_of_ble_eq_true rfl, Nat.le_of_ble_eq_true rfl⟩ rfl hl.1 rfl (Nat.le_of_ble_eq_true rfl) dX11_mend_52 (fun S_12 v_13 H locs h hG => ?_)
        refine lv_aload_n hx hb dX11_mend_55 rfl (lv_at hl 1 rfl) ?_
        refine x_gr (r := 96) hM hG xfl_X11_79 xct_0 (by decide) rfl dX11_mend_56 ?_
        refine lv_iload_n hx hb dX11_mend_59 rfl (lv_at hl 2 rfl) ?_
        refine lv_iload_n hx hb dX11_mend_60 rfl (lv_at hl 3 rfl) ?_
        refine lv_iload hx hb dX11_mend_61 (lv_at hl 0 rfl) ?_
        refine lv_iload_n hx hb dX11_mend_63 rfl (lv_at hl 4 rfl) ?_
        refine x_cVv (As := [.int x1, .int x2, .int v_10, .int x3]) (rest := []) hM hG xml_X11_136 xwi_X2_add xws_X2_add xct_96 (by decide) rfl h (fun S' v e => c_X2_add hM.2.2.2.2.2.2.1 e _) ⟨Nat.le_of_ble_eq_true rfl, Nat.le_of_ble_eq_true rfl⟩ rfl hl.1 rfl (Nat.le_of_ble_eq_true rfl) dX11_mend_64 (fun S_14 v_15 H locs h hG => ?_)
        refine lv_iload hx hb dX11_mend_67 (lv_at hl 0 rfl) ?_
        exact x_ri hM hG hr hlk rfl (k0 _ (Option.some.inj h).symm) dX11_mend_69
    · refine lv_iconst (v := (-1 : Int32)) hx hb dX11_mend_26 (by decide) ?_
      exact x_ri hM hG hr hlk rfl (k0 _ (Option.some.inj h).symm) dX11_mend_27
set_option maxHeartbeats 4000000 in
set_option maxRecDepth 100000 in
theorem c_X11_mend {l : Launch} {D : va_G} {cy : Nat → ClassId} {a z : Nat → Nat} (hI : xI xtb a) {S : xSt} {x1 : Int32} {x2 : Int32} {x3 : Int32} {S' : xSt} {v' : Int32} (hf : f_X11_mend S x1 x2 x3 = some (S', v')) (sz : Nat) : Met l yX11_mend (Cond.code yX11_mend cX11_mend 5 (some .int) :: xTB) ({ frames := 3, cells := 0, slots := 0, locals := 70 } : Room) (va_Pc [.ref (a 0), .int x1, .int x2, .int x3] (xPre D cy xtb a z S sz)) (xQi D cy xtb a S' v' sz) 0 0 (xA xtb a sz) := by
  refine Met.ofW (cc := cX11_mend) (maxL := 5) (ret := (some .int)) (by decide) rfl ?_
  intro p e s m args below meth c s₁ B hml hv
  obtain ⟨rfl, hsz, hP, hK, hE⟩ := hv
  subst hsz
  have hl := lv_entry ([.ref (a 0), .int x1, .int x2, .int x3]) (n := 5) (Nat.le_of_ble_eq_true rfl)
  rw [lg_entry_eq]
  generalize (lg_sl ([.ref (a 0), .int x1, .int x2, .int x3]) ++ List.replicate (5 - (lg_sl ([.ref (a 0), .int x1, .int x2, .int x3])).length) Slot.unset).toArray = ls at hl ⊢
  have hl : lv_has ls 5 [(0, .ref (a 0)), (1, .int x1), (2, .int x2), (3, .int x3)] := hl
  exact w_X11_mend_0 ⟨B.exec, B.bytes, hml, findClass_of_methodNamed B.named, fun w hw => atoms_spec (ws := Cond.code yX11_mend cX11_mend 5 (some .int) :: xTB) B.pre w (List.mem_cons_of_mem _ hw), hK, hI, hE⟩ B.returns B.notSynchronized hf (fun t0 e => e.symm) ⟨hP, va_S.rf⟩ (lv_sub hl [0, 1, 2, 3] rfl)
set_option maxHeartbeats 4000000 in
set_option maxRecDepth 100000 in
theorem w_X11_of_0 {x1 : Int32} {x2 : Int32} (hM : xM p c cX11_of m s args RX11 3 D cy xtb a z) (hr : meth.sig.returnType = (some .int)) (hlk : meth.locks = false) {S' : xSt} {v' : Int32} {S : xSt} {q : (xSt × Int32)} (h : f_X11_of_0 x1 x2 S = some q) (k0 : ∀ t0 : xSt × Int32, q = t0 → t0 = (S', v')) {H : Heap} {locs : List Loc} (hG : xG D cy xtb a S s H locs) {ls : Array Slot} (hl : lv_has ls 3 [(0, .ref (a 0)), (1, .int x1), (2, .int x2)]) : W p l e ({ frames := 2, cells := 0, slots := 0, locals := 44 } : Room) s m args below meth c H locs 0 0 (MQ below (xQi D cy xtb a S' v' s.heap.size) args s 0 0 (xA xtb a s.heap.size)) (F0 m 0 ls []) := by
  have hx := hM.1
  have hb := hM.2.1
  refine lv_iload_n hx hb dX11_of_0 rfl (lv_at hl 2 rfl) ?_
  refine lv_bipush (v := (8 : Int32)) hx hb dX11_of_1 (by decide) ?_
  refine x_icmp_ne (tgt := 29) hM h dX11_of_3 (by decide) (fun c_1 h => ?_) (fun c_1 h => ?_)
  · refine lv_aload_n hx hb dX11_of_29 rfl (lv_at hl 0 rfl) ?_
    refine lv_iload_n hx hb dX11_of_30 rfl (lv_at hl 1 rfl) ?_
    refine lv_iload_n hx hb dX11_of_31 rfl (lv_at hl 2 rfl) ?_
    refine x_cVi (As := [.int x1, .int x2]) (rest := []) hM hG xml_X11_117 xwi_X11_isNumber xws_X11_isNumber xct_0 (by decide) rfl h (fun S' v e => c_X11_isNumber hM.2.2.2.2.2.2.1 e _) ⟨Nat.le_of_ble_eq_true rfl, Nat.le_of_ble_eq_true rfl⟩ rfl hl.1 rfl (Nat.le_of_ble_eq_true rfl) dX11_of_32 (fun S_2 v_3 H locs h hG => ?_)
    refine x_if_eq (tgt := 50) hM h dX11_of_35 (by decide) (fun c_4 h => ?_) (fun c_4 h => ?_)
    · refine lv_iconst (v := (-1 : Int32)) hx hb dX11_of_50 (by decide) ?_
      exact x_ri hM hG hr hlk rfl (k0 _ (Option.some.inj h).symm) dX11_of_51
    · refine lv_aload_n hx hb dX11_of_38 rfl (lv_at hl 0 rfl) ?_
      refine x_gr (r := 16) hM hG xfl_X11_28 xct_0 (by decide) rfl dX11_of_39 ?_
      refine lv_iload_n hx hb dX11_of_42 rfl (lv_at hl 1 rfl) ?_
      refine lv_iload_n hx hb dX11_of_43 rfl (lv_at hl 2 rfl) ?_
      refine x_cVi (As := [.int x1, .int x2]) (rest := []) hM hG xml_X11_128 xwi_X4_numberOf xws_X4_numberOf xih_hay.1 (by decide) rfl h (fun S' v e => c_X4_numberOf hM.2.2.2.2.2.2.1 xih_hay e _) ⟨Nat.le_of_ble_eq_true rfl, Nat.le_of_ble_eq_true rfl⟩ rfl hl.1 rfl (Nat.le_of_ble_eq_true rfl) dX11_of_44 (fun S_5 v_6 H locs h hG => ?_)
      refine lv_goto (tgt := 51) hx hb dX11_of_47 (by decide) ?_
      exact x_ri hM hG hr hlk rfl (k0 _ (Option.some.inj h).symm) dX11_of_51
  · refine lv_iload_n hx hb dX11_of_6 rfl (lv_at hl 1 rfl) ?_
    refine lv_iconst (v := (0 : Int32)) hx hb dX11_of_7 (by decide) ?_
    refine lv_iconst (v := (5 : Int32)) hx hb dX11_of_8 (by decide) ?_
    refine x_cSi (As := [.int x1, .int (0 : Int32), .int (5 : Int32)]) (rest := []) hM hG xml_X11_97 xwt_X11_within h (fun S' v e => c_X11_within hM.2.2.2.2.2.2.1 e _) ⟨Nat.le_of_ble_eq_true rfl, Nat.le_of_ble_eq_true rfl⟩ rfl hl.1 rfl (Nat.le_of_ble_eq_true rfl) dX11_of_9 (fun S_7 v_8 H locs h hG => ?_)
    refine x_if_eq (tgt := 27) hM h dX11_of_12 (by decide) (fun c_9 h => ?_) (fun c_9 h => ?_)
    · refine lv_iconst (v := (-1 : Int32)) hx hb dX11_of_27 (by decide) ?_
      exact x_ri hM hG hr hlk rfl (k0 _ (Option.some.inj h).symm) dX11_of_28
    · refine lv_aload_n hx hb dX11_of_15 rfl (lv_at hl 0 rfl) ?_
      refine x_gr (r := 16) hM hG xfl_X11_28 xct_0 (by decide) rfl dX11_of_16 ?_
      refine x_gr (r := 16 + 1) hM hG xfl_X11_140 xih_hay.1 (by decide) rfl dX11_of_19 ?_
      refine lv_iload_n hx hb dX11_of_22 rfl (lv_at hl 1 rfl) ?_
      refine x_iald hM hG xih_hay.2.1 h dX11_of_23 (fun v_10 h => ?_)
      refine lv_goto (tgt := 28) hx hb dX11_of_24 (by decide) ?_
      exact x_ri hM hG hr hlk rfl (k0 _ (Option.some.inj h).symm) dX11_of_28
set_option maxHeartbeats 4000000 in
set_option maxRecDepth 100000 in
theorem c_X11_of {l : Launch} {D : va_G} {cy : Nat → ClassId} {a z : Nat → Nat} (hI : xI xtb a) {S : xSt} {x1 : Int32} {x2 : Int32} {S' : xSt} {v' : Int32} (hf : f_X11_of S x1 x2 = some (S', v')) (sz : Nat) : Met l yX11_of (Cond.code yX11_of cX11_of 3 (some .int) :: xTB) ({ frames := 2, cells := 0, slots := 0, locals := 44 } : Room) (va_Pc [.ref (a 0), .int x1, .int x2] (xPre D cy xtb a z S sz)) (xQi D cy xtb a S' v' sz) 0 0 (xA xtb a sz) := by
  refine Met.ofW (cc := cX11_of) (maxL := 3) (ret := (some .int)) (by decide) rfl ?_
  intro p e s m args below meth c s₁ B hml hv
  obtain ⟨rfl, hsz, hP, hK, hE⟩ := hv
  subst hsz
  have hl := lv_entry ([.ref (a 0), .int x1, .int x2]) (n := 3) (Nat.le_of_ble_eq_true rfl)
  rw [lg_entry_eq]
  generalize (lg_sl ([.ref (a 0), .int x1, .int x2]) ++ List.replicate (3 - (lg_sl ([.ref (a 0), .int x1, .int x2])).length) Slot.unset).toArray = ls at hl ⊢
  have hl : lv_has ls 3 [(0, .ref (a 0)), (1, .int x1), (2, .int x2)] := hl
  exact w_X11_of_0 ⟨B.exec, B.bytes, hml, findClass_of_methodNamed B.named, fun w hw => atoms_spec (ws := Cond.code yX11_of cX11_of 3 (some .int) :: xTB) B.pre w (List.mem_cons_of_mem _ hw), hK, hI, hE⟩ B.returns B.notSynchronized hf (fun t0 e => e.symm) ⟨hP, va_S.rf⟩ (lv_sub hl [0, 1, 2] rfl)
set_option maxHeartbeats 4000000 in
set_option maxRecDepth 100000 in
theorem w_X11_feed_0 {x1 : Int32} (hM : xM p c cX11_feed m s args RX11 2 D cy xtb a z) (hr : meth.sig.returnType = (some .int)) (hlk : meth.locks = false) {S' : xSt} {v' : Int32} {S : xSt} {q : (xSt × Int32)} (h : f_X11_feed_0 x1 S = some q) (k0 : ∀ t0 : xSt × Int32, q = t0 → t0 = (S', v')) {H : Heap} {locs : List Loc} (hG : xG D cy xtb a S s H locs) {ls : Array Slot} (hl : lv_has ls 2 [(0, .ref (a 0)), (1, .int x1)]) : W p l e ({ frames := 1, cells := 0, slots := 0, locals := 22 } : Room) s m args below meth c H locs 0 0 (MQ below (xQi D cy xtb a S' v' s.heap.size) args s 0 0 (xA xtb a s.heap.size)) (F0 m 0 ls []) := by
  have hx := hM.1
  have hb := hM.2.1
  refine lv_iload_n hx hb dX11_feed_0 rfl (lv_at hl 1 rfl) ?_
  refine lv_iconst (v := (0 : Int32)) hx hb dX11_feed_1 (by decide) ?_
  refine lv_sipush (v := (255 : Int32)) hx hb dX11_feed_2 (by decide) ?_
  refine x_cSi (As := [.int x1, .int (0 : Int32), .int (255 : Int32)]) (rest := []) hM hG xml_X11_97 xwt_X11_within h (fun S' v e => c_X11_within hM.2.2.2.2.2.2.1 e _) ⟨Nat.le_of_ble_eq_true rfl, Nat.le_of_ble_eq_true rfl⟩ rfl hl.1 rfl (Nat.le_of_ble_eq_true rfl) dX11_feed_5 (fun S_1 v_2 H locs h hG => ?_)
  refine x_if_eq (tgt := 22) hM h dX11_feed_8 (by decide) (fun c_3 h => ?_) (fun c_3 h => ?_)
  · refine lv_iconst (v := (-1 : Int32)) hx hb dX11_feed_22 (by decide) ?_
    exact x_ri hM hG hr hlk rfl (k0 _ (Option.some.inj h).symm) dX11_feed_23
  · refine lv_aload_n hx hb dX11_feed_11 rfl (lv_at hl 0 rfl) ?_
    refine x_gr (r := 2) hM hG xfl_X11_10 xct_0 (by decide) rfl dX11_feed_12 ?_
    refine lv_iload_n hx hb dX11_feed_15 rfl (lv_at hl 1 rfl) ?_
    refine x_cVi (As := [.int x1]) (rest := []) hM hG xml_X11_143 xwi_X9_add xws_X9_add xct_2 (by decide) rfl h (fun S' v e => c_X9_add hM.2.2.2.2.2.2.1 e _) ⟨Nat.le_of_ble_eq_true rfl, Nat.le_of_ble_eq_true rfl⟩ rfl hl.1 rfl (Nat.le_of_ble_eq_true rfl) dX11_feed_16 (fun S_4 v_5 H locs h hG => ?_)
    refine lv_goto (tgt := 23) hx hb dX11_feed_19 (by decide) ?_
    exact x_ri hM hG hr hlk rfl (k0 _ (Option.some.inj h).symm) dX11_feed_23
set_option maxHeartbeats 4000000 in
set_option maxRecDepth 100000 in
theorem c_X11_feed {l : Launch} {D : va_G} {cy : Nat → ClassId} {a z : Nat → Nat} (hI : xI xtb a) {S : xSt} {x1 : Int32} {S' : xSt} {v' : Int32} (hf : f_X11_feed S x1 = some (S', v')) (sz : Nat) : Met l yX11_feed (Cond.code yX11_feed cX11_feed 2 (some .int) :: xTB) ({ frames := 1, cells := 0, slots := 0, locals := 22 } : Room) (va_Pc [.ref (a 0), .int x1] (xPre D cy xtb a z S sz)) (xQi D cy xtb a S' v' sz) 0 0 (xA xtb a sz) := by
  refine Met.ofW (cc := cX11_feed) (maxL := 2) (ret := (some .int)) (by decide) rfl ?_
  intro p e s m args below meth c s₁ B hml hv
  obtain ⟨rfl, hsz, hP, hK, hE⟩ := hv
  subst hsz
  have hl := lv_entry ([.ref (a 0), .int x1]) (n := 2) (Nat.le_of_ble_eq_true rfl)
  rw [lg_entry_eq]
  generalize (lg_sl ([.ref (a 0), .int x1]) ++ List.replicate (2 - (lg_sl ([.ref (a 0), .int x1])).length) Slot.unset).toArray = ls at hl ⊢
  have hl : lv_has ls 2 [(0, .ref (a 0)), (1, .int x1)] := hl
  exact w_X11_feed_0 ⟨B.exec, B.bytes, hml, findClass_of_methodNamed B.named, fun w hw => atoms_spec (ws := Cond.code yX11_feed cX11_feed 2 (some .int) :: xTB) B.pre w (List.mem_cons_of_mem _ hw), hK, hI, hE⟩ B.returns B.notSynchronized hf (fun t0 e => e.symm) ⟨hP, va_S.rf⟩ (lv_sub hl [0, 1] rfl)
set_option maxHeartbeats 4000000 in
set_option maxRecDepth 100000 in
theorem w_X11_law_23 {x1 : Int32} (hM : xM p c cX11_law m s args RX11 2 D cy xtb a z) (hr : meth.sig.returnType = (some .int)) (hlk : meth.locks = false) {S' : xSt} {v' : Int32} {S : xSt} {q : (xSt × Int32)} (h : f_X11_law_23 x1 S = some q) (k0 : ∀ t0 : xSt × Int32, q = t0 → t0 = (S', v')) {H : Heap} {locs : List Loc} (hG : xG D cy xtb a S s H locs) {ls : Array Slot} (hl : lv_has ls 2 [(0, .ref (a 0)), (1, .int x1)]) : W p l e ({ frames := 75, cells := 0, slots := 0, locals := 1862 } : Room) s m args below meth c H locs 0 0 (MQ below (xQi D cy xtb a S' v' s.heap.size) args s 0 0 (xA xtb a s.heap.size)) (F0 m 23 ls []) := by
  have hx := hM.1
  have hb := hM.2.1
  refine lv_aload_n hx hb dX11_law_23 rfl (lv_at hl 0 rfl) ?_
  refine x_gr (r := 2) hM hG xfl_X11_10 xct_0 (by decide) rfl dX11_law_24 ?_
  refine x_cVv (As := []) (rest := []) hM hG xml_X11_153 xwi_X9_clear xws_X9_clear xct_2 (by decide) rfl h (fun S' v e => c_X9_clear hM.2.2.2.2.2.2.1 e _) ⟨Nat.le_of_ble_eq_true rfl, Nat.le_of_ble_eq_true rfl⟩ rfl hl.1 rfl (Nat.le_of_ble_eq_true rfl) dX11_law_27 (fun S_1 v_2 H locs h hG => ?_)
  refine lv_iload_n hx hb dX11_law_30 rfl (lv_at hl 1 rfl) ?_
  refine x_if_ge (tgt := 38) hM h dX11_law_31 (by decide) (fun c_3 h => ?_) (fun c_3 h => ?_)
  · refine lv_bipush (v := (-100 : Int32)) hx hb dX11_law_38 (by decide) ?_
    refine lv_iload_n hx hb dX11_law_40 rfl (lv_at hl 1 rfl) ?_
    refine x_isub hM h dX11_law_41 (fun v_4 h => ?_)
    exact x_ri hM hG hr hlk rfl (k0 _ (Option.some.inj h).symm) dX11_law_42
  · refine lv_iconst (v := (1 : Int32)) hx hb dX11_law_34 (by decide) ?_
    refine lv_goto (tgt := 42) hx hb dX11_law_35 (by decide) ?_
    exact x_ri hM hG hr hlk rfl (k0 _ (Option.some.inj h).symm) dX11_law_42
set_option maxHeartbeats 4000000 in
set_option maxRecDepth 100000 in
theorem w_X11_law_0 (hM : xM p c cX11_law m s args RX11 2 D cy xtb a z) (hr : meth.sig.returnType = (some .int)) (hlk : meth.locks = false) {S' : xSt} {v' : Int32} {S : xSt} {q : (xSt × Int32)} (h : f_X11_law_0 S = some q) (k0 : ∀ t0 : xSt × Int32, q = t0 → t0 = (S', v')) {H : Heap} {locs : List Loc} (hG : xG D cy xtb a S s H locs) {ls : Array Slot} (hl : lv_has ls 2 [(0, .ref (a 0))]) : W p l e ({ frames := 75, cells := 0, slots := 0, locals := 1862 } : Room) s m args below meth c H locs 0 0 (MQ below (xQi D cy xtb a S' v' s.heap.size) args s 0 0 (xA xtb a s.heap.size)) (F0 m 0 ls []) := by
  have hx := hM.1
  have hb := hM.2.1
  refine lv_aload_n hx hb dX11_law_0 rfl (lv_at hl 0 rfl) ?_
  refine x_gr (r := 2) hM hG xfl_X11_10 xct_0 (by decide) rfl dX11_law_1 ?_
  refine x_cVi (As := []) (rest := []) hM hG xml_X11_146 xwi_X9_understand xws_X9_understand xct_2 (by decide) rfl h (fun S' v e => c_X9_understand hM.2.2.2.2.2.2.1 e _) ⟨Nat.le_of_ble_eq_true rfl, Nat.le_of_ble_eq_true rfl⟩ rfl hl.1 rfl (Nat.le_of_ble_eq_true rfl) dX11_law_4 (fun S_1 v_2 H locs h hG => ?_)
  refine lv_istore_n (lv' := [(1, .int v_2), (0, .ref (a 0))]) hx hb dX11_law_7 rfl hl (by decide) rfl (fun ls hl => ?_)
  refine lv_iload_n hx hb dX11_law_8 rfl (lv_at hl 0 rfl) ?_
  refine x_if_ge (tgt := 23) hM h dX11_law_9 (by decide) (fun c_3 h => ?_) (fun c_3 h => ?_)
  · exact w_X11_law_23 hM hr hlk h (fun t0 e => k0 t0 e) hG (lv_sub hl [1, 0] rfl)
  · refine lv_aload_n hx hb dX11_law_12 rfl (lv_at hl 1 rfl) ?_
    refine x_gr (r := 8) hM hG xfl_X11_19 xct_0 (by decide) rfl dX11_law_13 ?_
    refine lv_aload_n hx hb dX11_law_16 rfl (lv_at hl 1 rfl) ?_
    refine x_gr (r := 2) hM hG xfl_X11_10 xct_0 (by decide) rfl dX11_law_17 ?_
    refine x_cVv (As := [.ref (a 2)]) (rest := []) hM hG xml_X11_149 xwi_X5_become xws_X5_become xct_8 (by decide) rfl h (fun S' v e => c_X5_become hM.2.2.2.2.2.2.1 e _) ⟨Nat.le_of_ble_eq_true rfl, Nat.le_of_ble_eq_true rfl⟩ rfl hl.1 rfl (Nat.le_of_ble_eq_true rfl) dX11_law_20 (fun S_4 v_5 H locs h hG => ?_)
    exact w_X11_law_23 hM hr hlk h (fun t0 e => k0 t0 e) hG (lv_sub hl [1, 0] rfl)
set_option maxHeartbeats 4000000 in
set_option maxRecDepth 100000 in
theorem c_X11_law {l : Launch} {D : va_G} {cy : Nat → ClassId} {a z : Nat → Nat} (hI : xI xtb a) {S : xSt} {S' : xSt} {v' : Int32} (hf : f_X11_law S = some (S', v')) (sz : Nat) : Met l yX11_law (Cond.code yX11_law cX11_law 2 (some .int) :: xTB) ({ frames := 75, cells := 0, slots := 0, locals := 1862 } : Room) (va_Pc [.ref (a 0)] (xPre D cy xtb a z S sz)) (xQi D cy xtb a S' v' sz) 0 0 (xA xtb a sz) := by
  refine Met.ofW (cc := cX11_law) (maxL := 2) (ret := (some .int)) (by decide) rfl ?_
  intro p e s m args below meth c s₁ B hml hv
  obtain ⟨rfl, hsz, hP, hK, hE⟩ := hv
  subst hsz
  have hl := lv_entry ([.ref (a 0)]) (n := 2) (Nat.le_of_ble_eq_true rfl)
  rw [lg_entry_eq]
  generalize (lg_sl ([.ref (a 0)]) ++ List.replicate (2 - (lg_sl ([.ref (a 0)])).length) Slot.unset).toArray = ls at hl ⊢
  have hl : lv_has ls 2 [(0, .ref (a 0))] := hl
  exact w_X11_law_0 ⟨B.exec, B.bytes, hml, findClass_of_methodNamed B.named, fun w hw => atoms_spec (ws := Cond.code yX11_law cX11_law 2 (some .int) :: xTB) B.pre w (List.mem_cons_of_mem _ hw), hK, hI, hE⟩ B.returns B.notSynchronized hf (fun t0 e => e.symm) ⟨hP, va_S.rf⟩ (lv_sub hl [0] rfl)
set_option maxHeartbeats 4000000 in
set_option maxRecDepth 100000 in
theorem w_X11_heats_0 {x1 : Int32} (hM : xM p c cX11_heats m s args RX11 2 D cy xtb a z) (hr : meth.sig.returnType = (some .int)) (hlk : meth.locks = false) {S' : xSt} {v' : Int32} {S : xSt} {q : (xSt × Int32)} (h : f_X11_heats_0 x1 S = some q) (k0 : ∀ t0 : xSt × Int32, q = t0 → t0 = (S', v')) {H : Heap} {locs : List Loc} (hG : xG D cy xtb a S s H locs) {ls : Array Slot} (hl : lv_has ls 2 [(0, .ref (a 0)), (1, .int x1)]) : W p l e ({ frames := 3, cells := 0, slots := 0, locals := 81 } : Room) s m args below meth c H locs 0 0 (MQ below (xQi D cy xtb a S' v' s.heap.size) args s 0 0 (xA xtb a s.heap.size)) (F0 m 0 ls []) := by
  have hx := hM.1
  have hb := hM.2.1
  refine lv_aload_n hx hb dX11_heats_0 rfl (lv_at hl 0 rfl) ?_
  refine x_gr (r := 16) hM hG xfl_X11_28 xct_0 (by decide) rfl dX11_heats_1 ?_
  refine lv_iload_n hx hb dX11_heats_4 rfl (lv_at hl 1 rfl) ?_
  refine x_cVi (As := [.int x1]) (rest := []) hM hG xml_X11_156 xwi_X4_has xws_X4_has xih_hay.1 (by decide) rfl h (fun S' v e => c_X4_has hM.2.2.2.2.2.2.1 xih_hay e _) ⟨Nat.le_of_ble_eq_true rfl, Nat.le_of_ble_eq_true rfl⟩ rfl hl.1 rfl (Nat.le_of_ble_eq_true rfl) dX11_heats_5 (fun S_1 v_2 H locs h hG => ?_)
  refine x_if_eq (tgt := 26) hM h dX11_heats_8 (by decide) (fun c_3 h => ?_) (fun c_3 h => ?_)
  · refine lv_ldc (v := (-2000000000 : Int32)) hx hb hM.2.2.2.1 (hM.2.2.2.2.1 _ xcn_X11_163) dX11_heats_26 ?_
    exact x_ri hM hG hr hlk rfl (k0 _ (Option.some.inj h).symm) dX11_heats_28
  · refine lv_aload_n hx hb dX11_heats_11 rfl (lv_at hl 0 rfl) ?_
    refine x_gr (r := 8) hM hG xfl_X11_19 xct_0 (by decide) rfl dX11_heats_12 ?_
    refine lv_aload_n hx hb dX11_heats_15 rfl (lv_at hl 0 rfl) ?_
    refine x_gr (r := 16) hM hG xfl_X11_28 xct_0 (by decide) rfl dX11_heats_16 ?_
    refine lv_iload_n hx hb dX11_heats_19 rfl (lv_at hl 1 rfl) ?_
    refine x_cVi (As := [.ref (a 16), .int x1]) (rest := []) hM hG xml_X11_159 xwi_X5_gives xws_X5_gives xct_8 (by decide) rfl h (fun S' v e => c_X5_gives hM.2.2.2.2.2.2.1 xih_hay e _) ⟨Nat.le_of_ble_eq_true rfl, Nat.le_of_ble_eq_true rfl⟩ rfl hl.1 rfl (Nat.le_of_ble_eq_true rfl) dX11_heats_20 (fun S_4 v_5 H locs h hG => ?_)
    refine lv_goto (tgt := 28) hx hb dX11_heats_23 (by decide) ?_
    exact x_ri hM hG hr hlk rfl (k0 _ (Option.some.inj h).symm) dX11_heats_28
set_option maxHeartbeats 4000000 in
set_option maxRecDepth 100000 in
theorem c_X11_heats {l : Launch} {D : va_G} {cy : Nat → ClassId} {a z : Nat → Nat} (hI : xI xtb a) {S : xSt} {x1 : Int32} {S' : xSt} {v' : Int32} (hf : f_X11_heats S x1 = some (S', v')) (sz : Nat) : Met l yX11_heats (Cond.code yX11_heats cX11_heats 2 (some .int) :: xTB) ({ frames := 3, cells := 0, slots := 0, locals := 81 } : Room) (va_Pc [.ref (a 0), .int x1] (xPre D cy xtb a z S sz)) (xQi D cy xtb a S' v' sz) 0 0 (xA xtb a sz) := by
  refine Met.ofW (cc := cX11_heats) (maxL := 2) (ret := (some .int)) (by decide) rfl ?_
  intro p e s m args below meth c s₁ B hml hv
  obtain ⟨rfl, hsz, hP, hK, hE⟩ := hv
  subst hsz
  have hl := lv_entry ([.ref (a 0), .int x1]) (n := 2) (Nat.le_of_ble_eq_true rfl)
  rw [lg_entry_eq]
  generalize (lg_sl ([.ref (a 0), .int x1]) ++ List.replicate (2 - (lg_sl ([.ref (a 0), .int x1])).length) Slot.unset).toArray = ls at hl ⊢
  have hl : lv_has ls 2 [(0, .ref (a 0)), (1, .int x1)] := hl
  exact w_X11_heats_0 ⟨B.exec, B.bytes, hml, findClass_of_methodNamed B.named, fun w hw => atoms_spec (ws := Cond.code yX11_heats cX11_heats 2 (some .int) :: xTB) B.pre w (List.mem_cons_of_mem _ hw), hK, hI, hE⟩ B.returns B.notSynchronized hf (fun t0 e => e.symm) ⟨hP, va_S.rf⟩ (lv_sub hl [0, 1] rfl)
set_option maxHeartbeats 4000000 in
set_option maxRecDepth 100000 in
theorem w_X11_later_0 {x1 : Int32} {x2 : Int32} {x3 : Int32} (hM : xM p c cX11_later m s args RX11 5 D cy xtb a z) (hr : meth.sig.returnType = (some .int)) (hlk : meth.locks = false) {S' : xSt} {v' : Int32} {S : xSt} {q : (xSt × Int32)} (h : f_X11_later_0 x1 x2 x3 S = some q) (k0 : ∀ t0 : xSt × Int32, q = t0 → t0 = (S', v')) {H : Heap} {locs : List Loc} (hG : xG D cy xtb a S s H locs) {ls : Array Slot} (hl : lv_has ls 5 [(0, .ref (a 0)), (1, .int x1), (2, .int x2), (3, .int x3)]) : W p l e ({ frames := 5, cells := 0, slots := 0, locals := 124 } : Room) s m args below meth c H locs 0 0 (MQ below (xQi D cy xtb a S' v' s.heap.size) args s 0 0 (xA xtb a s.heap.size)) (F0 m 0 ls []) := by
  have hx := hM.1
  have hb := hM.2.1
  refine lv_iload_n hx hb dX11_later_0 rfl (lv_at hl 1 rfl) ?_
  refine lv_iconst (v := (0 : Int32)) hx hb dX11_later_1 (by decide) ?_
  refine lv_bipush (v := (40 : Int32)) hx hb dX11_later_2 (by decide) ?_
  refine x_cSi (As := [.int x1, .int (0 : Int32), .int (40 : Int32)]) (rest := []) hM hG xml_X11_97 xwt_X11_within h (fun S' v e => c_X11_within hM.2.2.2.2.2.2.1 e _) ⟨Nat.le_of_ble_eq_true rfl, Nat.le_of_ble_eq_true rfl⟩ rfl hl.1 rfl (Nat.le_of_ble_eq_true rfl) dX11_later_4 (fun S_1 v_2 H locs h hG => ?_)
  refine x_if_eq (tgt := 30) hM h dX11_later_7 (by decide) (fun c_3 h => ?_) (fun c_3 h => ?_)
  · refine lv_iconst (v := (-1 : Int32)) hx hb dX11_later_30 (by decide) ?_
    exact x_ri hM hG hr hlk rfl (k0 _ (Option.some.inj h).symm) dX11_later_31
  · refine lv_aload_n hx hb dX11_later_10 rfl (lv_at hl 0 rfl) ?_
    refine x_gr (r := 16) hM hG xfl_X11_28 xct_0 (by decide) rfl dX11_later_11 ?_
    refine lv_iload_n hx hb dX11_later_14 rfl (lv_at hl 2 rfl) ?_
    refine x_cVi (As := [.int x2]) (rest := []) hM hG xml_X11_156 xwi_X4_has xws_X4_has xih_hay.1 (by decide) rfl h (fun S' v e => c_X4_has hM.2.2.2.2.2.2.1 xih_hay e _) ⟨Nat.le_of_ble_eq_true rfl, Nat.le_of_ble_eq_true rfl⟩ rfl hl.1 rfl (Nat.le_of_ble_eq_true rfl) dX11_later_15 (fun S_4 v_5 H locs h hG => ?_)
    refine x_if_eq (tgt := 30) hM h dX11_later_18 (by decide) (fun c_6 h => ?_) (fun c_6 h => ?_)
    · refine lv_iconst (v := (-1 : Int32)) hx hb dX11_later_30 (by decide) ?_
      exact x_ri hM hG hr hlk rfl (k0 _ (Option.some.inj h).symm) dX11_later_31
    · refine lv_iload_n hx hb dX11_later_21 rfl (lv_at hl 3 rfl) ?_
      refine lv_iconst (v := (0 : Int32)) hx hb dX11_later_22 (by decide) ?_
      refine lv_iconst (v := (2 : Int32)) hx hb dX11_later_23 (by decide) ?_
      refine x_cSi (As := [.int x3, .int (0 : Int32), .int (2 : Int32)]) (rest := []) hM hG xml_X11_97 xwt_X11_within h (fun S' v e => c_X11_within hM.2.2.2.2.2.2.1 e _) ⟨Nat.le_of_ble_eq_true rfl, Nat.le_of_ble_eq_true rfl⟩ rfl hl.1 rfl (Nat.le_of_ble_eq_true rfl) dX11_later_24 (fun S_7 v_8 H locs h hG => ?_)
      refine x_if_ne (tgt := 32) hM h dX11_later_27 (by decide) (fun c_9 h => ?_) (fun c_9 h => ?_)
      · refine lv_aload_n hx hb dX11_later_32 rfl (lv_at hl 0 rfl) ?_
        refine x_gr (r := 86) hM hG xfl_X11_40 xct_0 (by decide) rfl dX11_later_33 ?_
        refine lv_iload_n hx hb dX11_later_36 rfl (lv_at hl 1 rfl) ?_
        refine x_cVr (As := [.int x1]) (rest := []) hM hG xml_X11_164 xwi_X10_behind xws_X10_behind xct_86 (by decide) rfl h (fun S' v e => c_X10_behind hM.2.2.2.2.2.2.1 e _) ⟨Nat.le_of_ble_eq_true rfl, Nat.le_of_ble_eq_true rfl⟩ rfl hl.1 rfl (Nat.le_of_ble_eq_true rfl) dX11_later_37 (fun S_10 v_11 H locs h hG => ?_)
        obtain ⟨rfl, h⟩ := xgd_at h
        refine lv_astore (lv' := [(4, .ref (a 36)), (0, .ref (a 0)), (1, .int x1), (2, .int x2), (3, .int x3)]) hx hb dX11_later_40 hl (by decide) rfl (fun ls hl => ?_)
        refine lv_iload_n hx hb dX11_later_42 rfl (lv_at hl 4 rfl) ?_
        refine x_if_ne (tgt := 56) hM h dX11_later_43 (by decide) (fun c_12 h => ?_) (fun c_12 h => ?_)
        · refine lv_iload_n hx hb dX11_later_56 rfl (lv_at hl 4 rfl) ?_
          refine lv_iconst (v := (1 : Int32)) hx hb dX11_later_57 (by decide) ?_
          refine x_icmp_ne (tgt := 71) hM h dX11_later_58 (by decide) (fun c_13 h => ?_) (fun c_13 h => ?_)
          · refine lv_aload hx hb dX11_later_71 (lv_at hl 0 rfl) ?_
            refine x_gr (r := 36 + 5) hM hG xfl_X11_174 xih_mind.1 (by decide) rfl dX11_later_73 ?_
            refine lv_iload_n hx hb dX11_later_76 rfl (lv_at hl 3 rfl) ?_
            refine x_iald hM hG xih_mind.2.2.2.2.2.1 h dX11_later_77 (fun v_14 h => ?_)
            exact x_ri hM hG hr hlk rfl (k0 _ (Option.some.inj h).symm) dX11_later_78
          · refine lv_aload hx hb dX11_later_61 (lv_at hl 0 rfl) ?_
            refine x_gr (r := 36 + 3) hM hG xfl_X11_171 xih_mind.1 (by decide) rfl dX11_later_63 ?_
            refine lv_iload_n hx hb dX11_later_66 rfl (lv_at hl 3 rfl) ?_
            refine x_iald hM hG xih_mind.2.2.2.1 h dX11_later_67 (fun v_15 h => ?_)
            refine lv_goto (tgt := 78) hx hb dX11_later_68 (by decide) ?_
            exact x_ri hM hG hr hlk rfl (k0 _ (Option.some.inj h).symm) dX11_later_78
        · refine lv_aload hx hb dX11_later_46 (lv_at hl 0 rfl) ?_
          refine x_gr (r := 36 + 4) hM hG xfl_X11_168 xih_mind.1 (by decide) rfl dX11_later_48 ?_
          refine lv_iload_n hx hb dX11_later_51 rfl (lv_at hl 3 rfl) ?_
          refine x_iald hM hG xih_mind.2.2.2.2.1 h dX11_later_52 (fun v_16 h => ?_)
          refine lv_goto (tgt := 78) hx hb dX11_later_53 (by decide) ?_
          exact x_ri hM hG hr hlk rfl (k0 _ (Option.some.inj h).symm) dX11_later_78
      · refine lv_iconst (v := (-1 : Int32)) hx hb dX11_later_30 (by decide) ?_
        exact x_ri hM hG hr hlk rfl (k0 _ (Option.some.inj h).symm) dX11_later_31
set_option maxHeartbeats 4000000 in
set_option maxRecDepth 100000 in
theorem c_X11_later {l : Launch} {D : va_G} {cy : Nat → ClassId} {a z : Nat → Nat} (hI : xI xtb a) {S : xSt} {x1 : Int32} {x2 : Int32} {x3 : Int32} {S' : xSt} {v' : Int32} (hf : f_X11_later S x1 x2 x3 = some (S', v')) (sz : Nat) : Met l yX11_later (Cond.code yX11_later cX11_later 5 (some .int) :: xTB) ({ frames := 5, cells := 0, slots := 0, locals := 124 } : Room) (va_Pc [.ref (a 0), .int x1, .int x2, .int x3] (xPre D cy xtb a z S sz)) (xQi D cy xtb a S' v' sz) 0 0 (xA xtb a sz) := by
  refine Met.ofW (cc := cX11_later) (maxL := 5) (ret := (some .int)) (by decide) rfl ?_
  intro p e s m args below meth c s₁ B hml hv
  obtain ⟨rfl, hsz, hP, hK, hE⟩ := hv
  subst hsz
  have hl := lv_entry ([.ref (a 0), .int x1, .int x2, .int x3]) (n := 5) (Nat.le_of_ble_eq_true rfl)
  rw [lg_entry_eq]
  generalize (lg_sl ([.ref (a 0), .int x1, .int x2, .int x3]) ++ List.replicate (5 - (lg_sl ([.ref (a 0), .int x1, .int x2, .int x3])).length) Slot.unset).toArray = ls at hl ⊢
  have hl : lv_has ls 5 [(0, .ref (a 0)), (1, .int x1), (2, .int x2), (3, .int x3)] := hl
  exact w_X11_later_0 ⟨B.exec, B.bytes, hml, findClass_of_methodNamed B.named, fun w hw => atoms_spec (ws := Cond.code yX11_later cX11_later 5 (some .int) :: xTB) B.pre w (List.mem_cons_of_mem _ hw), hK, hI, hE⟩ B.returns B.notSynchronized hf (fun t0 e => e.symm) ⟨hP, va_S.rf⟩ (lv_sub hl [0, 1, 2, 3] rfl)
set_option maxHeartbeats 4000000 in
set_option maxRecDepth 100000 in
theorem w_X11_stack_0 {x1 : Int32} {x2 : Int32} (hM : xM p c cX11_stack m s args RX11 4 D cy xtb a z) (hr : meth.sig.returnType = (some .int)) (hlk : meth.locks = false) {S' : xSt} {v' : Int32} {S : xSt} {q : (xSt × Int32)} (h : f_X11_stack_0 x1 x2 S = some q) (k0 : ∀ t0 : xSt × Int32, q = t0 → t0 = (S', v')) {H : Heap} {locs : List Loc} (hG : xG D cy xtb a S s H locs) {ls : Array Slot} (hl : lv_has ls 4 [(0, .ref (a 0)), (1, .int x1), (2, .int x2)]) : W p l e ({ frames := 5, cells := 0, slots := 0, locals := 124 } : Room) s m args below meth c H locs 0 0 (MQ below (xQi D cy xtb a S' v' s.heap.size) args s 0 0 (xA xtb a s.heap.size)) (F0 m 0 ls []) := by
  have hx := hM.1
  have hb := hM.2.1
  refine lv_iload_n hx hb dX11_stack_0 rfl (lv_at hl 1 rfl) ?_
  refine lv_iconst (v := (0 : Int32)) hx hb dX11_stack_1 (by decide) ?_
  refine lv_bipush (v := (40 : Int32)) hx hb dX11_stack_2 (by decide) ?_
  refine x_cSi (As := [.int x1, .int (0 : Int32), .int (40 : Int32)]) (rest := []) hM hG xml_X11_97 xwt_X11_within h (fun S' v e => c_X11_within hM.2.2.2.2.2.2.1 e _) ⟨Nat.le_of_ble_eq_true rfl, Nat.le_of_ble_eq_true rfl⟩ rfl hl.1 rfl (Nat.le_of_ble_eq_true rfl) dX11_stack_4 (fun S_1 v_2 H locs h hG => ?_)
  refine x_if_eq (tgt := 19) hM h dX11_stack_7 (by decide) (fun c_3 h => ?_) (fun c_3 h => ?_)
  · refine lv_iconst (v := (-1 : Int32)) hx hb dX11_stack_19 (by decide) ?_
    exact x_ri hM hG hr hlk rfl (k0 _ (Option.some.inj h).symm) dX11_stack_20
  · refine lv_iload_n hx hb dX11_stack_10 rfl (lv_at hl 2 rfl) ?_
    refine lv_iconst (v := (0 : Int32)) hx hb dX11_stack_11 (by decide) ?_
    refine lv_iconst (v := (3 : Int32)) hx hb dX11_stack_12 (by decide) ?_
    refine x_cSi (As := [.int x2, .int (0 : Int32), .int (3 : Int32)]) (rest := []) hM hG xml_X11_97 xwt_X11_within h (fun S' v e => c_X11_within hM.2.2.2.2.2.2.1 e _) ⟨Nat.le_of_ble_eq_true rfl, Nat.le_of_ble_eq_true rfl⟩ rfl hl.1 rfl (Nat.le_of_ble_eq_true rfl) dX11_stack_13 (fun S_4 v_5 H locs h hG => ?_)
    refine x_if_ne (tgt := 21) hM h dX11_stack_16 (by decide) (fun c_6 h => ?_) (fun c_6 h => ?_)
    · refine lv_aload_n hx hb dX11_stack_21 rfl (lv_at hl 0 rfl) ?_
      refine x_gr (r := 86) hM hG xfl_X11_40 xct_0 (by decide) rfl dX11_stack_22 ?_
      refine lv_iload_n hx hb dX11_stack_25 rfl (lv_at hl 1 rfl) ?_
      refine x_cVr (As := [.int x1]) (rest := []) hM hG xml_X11_164 xwi_X10_behind xws_X10_behind xct_86 (by decide) rfl h (fun S' v e => c_X10_behind hM.2.2.2.2.2.2.1 e _) ⟨Nat.le_of_ble_eq_true rfl, Nat.le_of_ble_eq_true rfl⟩ rfl hl.1 rfl (Nat.le_of_ble_eq_true rfl) dX11_stack_26 (fun S_7 v_8 H locs h hG => ?_)
      obtain ⟨rfl, h⟩ := xgd_at h
      refine lv_astore_n (lv' := [(3, .ref (a 36)), (0, .ref (a 0)), (1, .int x1), (2, .int x2)]) hx hb dX11_stack_29 rfl hl (by decide) rfl (fun ls hl => ?_)
      refine lv_iload_n hx hb dX11_stack_30 rfl (lv_at hl 3 rfl) ?_
      by_cases c_9 : x2 = (0 : Int32)
      · have h := (if_pos c_9).symm.trans h
        refine lv_tableIn (off := 25) (tgt := 56) hx hb dX11_stack_31 (by rw [c_9]; decide) (by rw [c_9]; decide) (by rw [c_9]; rfl) (by decide) ?_
        refine lv_aload_n hx hb dX11_stack_56 rfl (lv_at hl 0 rfl) ?_
        refine x_cVi (As := []) (rest := []) hM hG xml_X11_177 xwi_X4_hottestCell xws_X4_hottestCell xih_mind.1 (by decide) rfl h (fun S' v e => c_X4_hottestCell hM.2.2.2.2.2.2.1 xih_mind e _) ⟨Nat.le_of_ble_eq_true rfl, Nat.le_of_ble_eq_true rfl⟩ rfl hl.1 rfl (Nat.le_of_ble_eq_true rfl) dX11_stack_57 (fun S_10 v_11 H locs h hG => ?_)
        exact x_ri hM hG hr hlk rfl (k0 _ (Option.some.inj h).symm) dX11_stack_60
      · have h := (if_neg c_9).symm.trans h
        by_cases c_12 : x2 = (1 : Int32)
        · have h := (if_pos c_12).symm.trans h
          refine lv_tableIn (off := 30) (tgt := 61) hx hb dX11_stack_31 (by rw [c_12]; decide) (by rw [c_12]; decide) (by rw [c_12]; rfl) (by decide) ?_
          refine lv_aload_n hx hb dX11_stack_61 rfl (lv_at hl 0 rfl) ?_
          refine x_cVi (As := []) (rest := []) hM hG xml_X11_180 xwi_X4_hottestHeat xws_X4_hottestHeat xih_mind.1 (by decide) rfl h (fun S' v e => c_X4_hottestHeat hM.2.2.2.2.2.2.1 xih_mind e _) ⟨Nat.le_of_ble_eq_true rfl, Nat.le_of_ble_eq_true rfl⟩ rfl hl.1 rfl (Nat.le_of_ble_eq_true rfl) dX11_stack_62 (fun S_13 v_14 H locs h hG => ?_)
          exact x_ri hM hG hr hlk rfl (k0 _ (Option.some.inj h).symm) dX11_stack_65
        · have h := (if_neg c_12).symm.trans h
          by_cases c_15 : x2 = (2 : Int32)
          · have h := (if_pos c_15).symm.trans h
            refine lv_tableIn (off := 35) (tgt := 66) hx hb dX11_stack_31 (by rw [c_15]; decide) (by rw [c_15]; decide) (by rw [c_15]; rfl) (by decide) ?_
            refine lv_aload_n hx hb dX11_stack_66 rfl (lv_at hl 0 rfl) ?_
            refine x_cVi (As := []) (rest := []) hM hG xml_X11_183 xwi_X4_glowing xws_X4_glowing xih_mind.1 (by decide) rfl h (fun S' v e => c_X4_glowing hM.2.2.2.2.2.2.1 xih_mind e _) ⟨Nat.le_of_ble_eq_true rfl, Nat.le_of_ble_eq_true rfl⟩ rfl hl.1 rfl (Nat.le_of_ble_eq_true rfl) dX11_stack_67 (fun S_16 v_17 H locs h hG => ?_)
            exact x_ri hM hG hr hlk rfl (k0 _ (Option.some.inj h).symm) dX11_stack_70
          · have h := (if_neg c_15).symm.trans h
            refine lv_tableOut (tgt := 71) hx hb dX11_stack_31 (x_tout [(0 : Int32), (1 : Int32), (2 : Int32)] 0 (by decide) (by decide) (List.forall_mem_cons.mpr ⟨c_9, (List.forall_mem_cons.mpr ⟨c_12, (List.forall_mem_cons.mpr ⟨c_15, (fun _ h => absurd h List.not_mem_nil)⟩)⟩)⟩)) (by decide) ?_
            refine lv_aload_n hx hb dX11_stack_71 rfl (lv_at hl 0 rfl) ?_
            refine x_cVi (As := []) (rest := []) hM hG xml_X11_186 xwi_X4_goodOfAll xws_X4_goodOfAll xih_mind.1 (by decide) rfl h (fun S' v e => c_X4_goodOfAll hM.2.2.2.2.2.2.1 xih_mind e _) ⟨Nat.le_of_ble_eq_true rfl, Nat.le_of_ble_eq_true rfl⟩ rfl hl.1 rfl (Nat.le_of_ble_eq_true rfl) dX11_stack_72 (fun S_18 v_19 H locs h hG => ?_)
            exact x_ri hM hG hr hlk rfl (k0 _ (Option.some.inj h).symm) dX11_stack_75
    · refine lv_iconst (v := (-1 : Int32)) hx hb dX11_stack_19 (by decide) ?_
      exact x_ri hM hG hr hlk rfl (k0 _ (Option.some.inj h).symm) dX11_stack_20
set_option maxHeartbeats 4000000 in
set_option maxRecDepth 100000 in
theorem c_X11_stack {l : Launch} {D : va_G} {cy : Nat → ClassId} {a z : Nat → Nat} (hI : xI xtb a) {S : xSt} {x1 : Int32} {x2 : Int32} {S' : xSt} {v' : Int32} (hf : f_X11_stack S x1 x2 = some (S', v')) (sz : Nat) : Met l yX11_stack (Cond.code yX11_stack cX11_stack 4 (some .int) :: xTB) ({ frames := 5, cells := 0, slots := 0, locals := 124 } : Room) (va_Pc [.ref (a 0), .int x1, .int x2] (xPre D cy xtb a z S sz)) (xQi D cy xtb a S' v' sz) 0 0 (xA xtb a sz) := by
  refine Met.ofW (cc := cX11_stack) (maxL := 4) (ret := (some .int)) (by decide) rfl ?_
  intro p e s m args below meth c s₁ B hml hv
  obtain ⟨rfl, hsz, hP, hK, hE⟩ := hv
  subst hsz
  have hl := lv_entry ([.ref (a 0), .int x1, .int x2]) (n := 4) (Nat.le_of_ble_eq_true rfl)
  rw [lg_entry_eq]
  generalize (lg_sl ([.ref (a 0), .int x1, .int x2]) ++ List.replicate (4 - (lg_sl ([.ref (a 0), .int x1, .int x2])).length) Slot.unset).toArray = ls at hl ⊢
  have hl : lv_has ls 4 [(0, .ref (a 0)), (1, .int x1), (2, .int x2)] := hl
  exact w_X11_stack_0 ⟨B.exec, B.bytes, hml, findClass_of_methodNamed B.named, fun w hw => atoms_spec (ws := Cond.code yX11_stack cX11_stack 4 (some .int) :: xTB) B.pre w (List.mem_cons_of_mem _ hw), hK, hI, hE⟩ B.returns B.notSynchronized hf (fun t0 e => e.symm) ⟨hP, va_S.rf⟩ (lv_sub hl [0, 1, 2] rfl)
set_option maxHeartbeats 4000000 in
set_option maxRecDepth 100000 in
theorem w_X11_first_16 {x1 : Int32} {x2 : Int32} (hM : xM p c cX11_first m s args RX11 3 D cy xtb a z) (hr : meth.sig.returnType = (some .int)) (hlk : meth.locks = false) {S' : xSt} {v' : Int32} {S : xSt} {q : (xSt × Int32)} (h : f_X11_first_16 x1 x2 S = some q) (k0 : ∀ t0 : xSt × Int32, q = t0 → t0 = (S', v')) {H : Heap} {locs : List Loc} (hG : xG D cy xtb a S s H locs) {ls : Array Slot} (hl : lv_has ls 3 [(0, .ref (a 0)), (1, .int x1), (2, .int x2)]) : W p l e ({ frames := 5, cells := 0, slots := 0, locals := 126 } : Room) s m args below meth c H locs 0 0 (MQ below (xQi D cy xtb a S' v' s.heap.size) args s 0 0 (xA xtb a s.heap.size)) (F0 m 16 ls []) := by
  have hx := hM.1
  have hb := hM.2.1
  refine lv_iload_n hx hb dX11_first_16 rfl (lv_at hl 2 rfl) ?_
  refine lv_iconst (v := (0 : Int32)) hx hb dX11_first_17 (by decide) ?_
  refine lv_bipush (v := (99 : Int32)) hx hb dX11_first_18 (by decide) ?_
  refine x_cSi (As := [.int x2, .int (0 : Int32), .int (99 : Int32)]) (rest := []) hM hG xml_X11_97 xwt_X11_within h (fun S' v e => c_X11_within hM.2.2.2.2.2.2.1 e _) ⟨Nat.le_of_ble_eq_true rfl, Nat.le_of_ble_eq_true rfl⟩ rfl hl.1 rfl (Nat.le_of_ble_eq_true rfl) dX11_first_20 (fun S_1 v_2 H locs h hG => ?_)
  refine x_if_ne (tgt := 28) hM h dX11_first_23 (by decide) (fun c_3 h => ?_) (fun c_3 h => ?_)
  · refine lv_aload_n hx hb dX11_first_28 rfl (lv_at hl 0 rfl) ?_
    refine x_gr (r := 86) hM hG xfl_X11_40 xct_0 (by decide) rfl dX11_first_29 ?_
    refine lv_iload_n hx hb dX11_first_32 rfl (lv_at hl 1 rfl) ?_
    refine lv_iload_n hx hb dX11_first_33 rfl (lv_at hl 2 rfl) ?_
    refine x_cVi (As := [.int x1, .int x2]) (rest := []) hM hG xml_X11_189 xwi_X10_firstDay xws_X10_firstDay xct_86 (by decide) rfl h (fun S' v e => c_X10_firstDay hM.2.2.2.2.2.2.1 e _) ⟨Nat.le_of_ble_eq_true rfl, Nat.le_of_ble_eq_true rfl⟩ rfl hl.1 rfl (Nat.le_of_ble_eq_true rfl) dX11_first_34 (fun S_4 v_5 H locs h hG => ?_)
    exact x_ri hM hG hr hlk rfl (k0 _ (Option.some.inj h).symm) dX11_first_37
  · refine lv_iconst (v := (-1 : Int32)) hx hb dX11_first_26 (by decide) ?_
    exact x_ri hM hG hr hlk rfl (k0 _ (Option.some.inj h).symm) dX11_first_27
set_option maxHeartbeats 4000000 in
set_option maxRecDepth 100000 in
theorem w_X11_first_0 {x1 : Int32} {x2 : Int32} (hM : xM p c cX11_first m s args RX11 3 D cy xtb a z) (hr : meth.sig.returnType = (some .int)) (hlk : meth.locks = false) {S' : xSt} {v' : Int32} {S : xSt} {q : (xSt × Int32)} (h : f_X11_first_0 x1 x2 S = some q) (k0 : ∀ t0 : xSt × Int32, q = t0 → t0 = (S', v')) {H : Heap} {locs : List Loc} (hG : xG D cy xtb a S s H locs) {ls : Array Slot} (hl : lv_has ls 3 [(0, .ref (a 0)), (1, .int x1), (2, .int x2)]) : W p l e ({ frames := 5, cells := 0, slots := 0, locals := 126 } : Room) s m args below meth c H locs 0 0 (MQ below (xQi D cy xtb a S' v' s.heap.size) args s 0 0 (xA xtb a s.heap.size)) (F0 m 0 ls []) := by
  have hx := hM.1
  have hb := hM.2.1
  refine lv_iload_n hx hb dX11_first_0 rfl (lv_at hl 1 rfl) ?_
  refine lv_iconst (v := (-1 : Int32)) hx hb dX11_first_1 (by decide) ?_
  refine x_icmp_eq (tgt := 16) hM h dX11_first_2 (by decide) (fun c_1 h => ?_) (fun c_1 h => ?_)
  · exact w_X11_first_16 hM hr hlk h (fun t0 e => k0 t0 e) hG (lv_sub hl [0, 1, 2] rfl)
  · refine lv_aload_n hx hb dX11_first_5 rfl (lv_at hl 0 rfl) ?_
    refine x_gr (r := 16) hM hG xfl_X11_28 xct_0 (by decide) rfl dX11_first_6 ?_
    refine lv_iload_n hx hb dX11_first_9 rfl (lv_at hl 1 rfl) ?_
    refine x_cVi (As := [.int x1]) (rest := []) hM hG xml_X11_156 xwi_X4_has xws_X4_has xih_hay.1 (by decide) rfl h (fun S' v e => c_X4_has hM.2.2.2.2.2.2.1 xih_hay e _) ⟨Nat.le_of_ble_eq_true rfl, Nat.le_of_ble_eq_true rfl⟩ rfl hl.1 rfl (Nat.le_of_ble_eq_true rfl) dX11_first_10 (fun S_2 v_3 H locs h hG => ?_)
    refine x_if_eq (tgt := 26) hM h dX11_first_13 (by decide) (fun c_4 h => ?_) (fun c_4 h => ?_)
    · refine lv_iconst (v := (-1 : Int32)) hx hb dX11_first_26 (by decide) ?_
      exact x_ri hM hG hr hlk rfl (k0 _ (Option.some.inj h).symm) dX11_first_27
    · exact w_X11_first_16 hM hr hlk h (fun t0 e => k0 t0 e) hG (lv_sub hl [0, 1, 2] rfl)
set_option maxHeartbeats 4000000 in
set_option maxRecDepth 100000 in
theorem c_X11_first {l : Launch} {D : va_G} {cy : Nat → ClassId} {a z : Nat → Nat} (hI : xI xtb a) {S : xSt} {x1 : Int32} {x2 : Int32} {S' : xSt} {v' : Int32} (hf : f_X11_first S x1 x2 = some (S', v')) (sz : Nat) : Met l yX11_first (Cond.code yX11_first cX11_first 3 (some .int) :: xTB) ({ frames := 5, cells := 0, slots := 0, locals := 126 } : Room) (va_Pc [.ref (a 0), .int x1, .int x2] (xPre D cy xtb a z S sz)) (xQi D cy xtb a S' v' sz) 0 0 (xA xtb a sz) := by
  refine Met.ofW (cc := cX11_first) (maxL := 3) (ret := (some .int)) (by decide) rfl ?_
  intro p e s m args below meth c s₁ B hml hv
  obtain ⟨rfl, hsz, hP, hK, hE⟩ := hv
  subst hsz
  have hl := lv_entry ([.ref (a 0), .int x1, .int x2]) (n := 3) (Nat.le_of_ble_eq_true rfl)
  rw [lg_entry_eq]
  generalize (lg_sl ([.ref (a 0), .int x1, .int x2]) ++ List.replicate (3 - (lg_sl ([.ref (a 0), .int x1, .int x2])).length) Slot.unset).toArray = ls at hl ⊢
  have hl : lv_has ls 3 [(0, .ref (a 0)), (1, .int x1), (2, .int x2)] := hl
  exact w_X11_first_0 ⟨B.exec, B.bytes, hml, findClass_of_methodNamed B.named, fun w hw => atoms_spec (ws := Cond.code yX11_first cX11_first 3 (some .int) :: xTB) B.pre w (List.mem_cons_of_mem _ hw), hK, hI, hE⟩ B.returns B.notSynchronized hf (fun t0 e => e.symm) ⟨hP, va_S.rf⟩ (lv_sub hl [0, 1, 2] rfl)
set_option maxHeartbeats 4000000 in
set_option maxRecDepth 100000 in
theorem w_X11_rods_0 {x1 : Int32} (hM : xM p c cX11_rods m s args RX11 2 D cy xtb a z) (hr : meth.sig.returnType = (some .int)) (hlk : meth.locks = false) {S' : xSt} {v' : Int32} {S : xSt} {q : (xSt × Int32)} (h : f_X11_rods_0 x1 S = some q) (k0 : ∀ t0 : xSt × Int32, q = t0 → t0 = (S', v')) {H : Heap} {locs : List Loc} (hG : xG D cy xtb a S s H locs) {ls : Array Slot} (hl : lv_has ls 2 [(0, .ref (a 0)), (1, .int x1)]) : W p l e ({ frames := 10, cells := 0, slots := 0, locals := 238 } : Room) s m args below meth c H locs 0 0 (MQ below (xQi D cy xtb a S' v' s.heap.size) args s 0 0 (xA xtb a s.heap.size)) (F0 m 0 ls []) := by
  have hx := hM.1
  have hb := hM.2.1
  refine lv_iload_n hx hb dX11_rods_0 rfl (lv_at hl 1 rfl) ?_
  refine lv_iconst (v := (0 : Int32)) hx hb dX11_rods_1 (by decide) ?_
  refine lv_bipush (v := (99 : Int32)) hx hb dX11_rods_2 (by decide) ?_
  refine x_cSi (As := [.int x1, .int (0 : Int32), .int (99 : Int32)]) (rest := []) hM hG xml_X11_97 xwt_X11_within h (fun S' v e => c_X11_within hM.2.2.2.2.2.2.1 e _) ⟨Nat.le_of_ble_eq_true rfl, Nat.le_of_ble_eq_true rfl⟩ rfl hl.1 rfl (Nat.le_of_ble_eq_true rfl) dX11_rods_4 (fun S_1 v_2 H locs h hG => ?_)
  refine x_if_eq (tgt := 21) hM h dX11_rods_7 (by decide) (fun c_3 h => ?_) (fun c_3 h => ?_)
  · refine lv_iconst (v := (-1 : Int32)) hx hb dX11_rods_21 (by decide) ?_
    exact x_ri hM hG hr hlk rfl (k0 _ (Option.some.inj h).symm) dX11_rods_22
  · refine lv_aload_n hx hb dX11_rods_10 rfl (lv_at hl 0 rfl) ?_
    refine x_gr (r := 87) hM hG xfl_X11_49 xct_0 (by decide) rfl dX11_rods_11 ?_
    refine lv_iload_n hx hb dX11_rods_14 rfl (lv_at hl 1 rfl) ?_
    refine x_cVi (As := [.int x1]) (rest := []) hM hG xml_X11_192 xwi_X7_fewest xws_X7_fewest xct_87 (by decide) rfl h (fun S' v e => c_X7_fewest hM.2.2.2.2.2.2.1 e _) ⟨Nat.le_of_ble_eq_true rfl, Nat.le_of_ble_eq_true rfl⟩ rfl hl.1 rfl (Nat.le_of_ble_eq_true rfl) dX11_rods_15 (fun S_4 v_5 H locs h hG => ?_)
    refine lv_goto (tgt := 22) hx hb dX11_rods_18 (by decide) ?_
    exact x_ri hM hG hr hlk rfl (k0 _ (Option.some.inj h).symm) dX11_rods_22
set_option maxHeartbeats 4000000 in
set_option maxRecDepth 100000 in
theorem c_X11_rods {l : Launch} {D : va_G} {cy : Nat → ClassId} {a z : Nat → Nat} (hI : xI xtb a) {S : xSt} {x1 : Int32} {S' : xSt} {v' : Int32} (hf : f_X11_rods S x1 = some (S', v')) (sz : Nat) : Met l yX11_rods (Cond.code yX11_rods cX11_rods 2 (some .int) :: xTB) ({ frames := 10, cells := 0, slots := 0, locals := 238 } : Room) (va_Pc [.ref (a 0), .int x1] (xPre D cy xtb a z S sz)) (xQi D cy xtb a S' v' sz) 0 0 (xA xtb a sz) := by
  refine Met.ofW (cc := cX11_rods) (maxL := 2) (ret := (some .int)) (by decide) rfl ?_
  intro p e s m args below meth c s₁ B hml hv
  obtain ⟨rfl, hsz, hP, hK, hE⟩ := hv
  subst hsz
  have hl := lv_entry ([.ref (a 0), .int x1]) (n := 2) (Nat.le_of_ble_eq_true rfl)
  rw [lg_entry_eq]
  generalize (lg_sl ([.ref (a 0), .int x1]) ++ List.replicate (2 - (lg_sl ([.ref (a 0), .int x1])).length) Slot.unset).toArray = ls at hl ⊢
  have hl : lv_has ls 2 [(0, .ref (a 0)), (1, .int x1)] := hl
  exact w_X11_rods_0 ⟨B.exec, B.bytes, hml, findClass_of_methodNamed B.named, fun w hw => atoms_spec (ws := Cond.code yX11_rods cX11_rods 2 (some .int) :: xTB) B.pre w (List.mem_cons_of_mem _ hw), hK, hI, hE⟩ B.returns B.notSynchronized hf (fun t0 e => e.symm) ⟨hP, va_S.rf⟩ (lv_sub hl [0, 1] rfl)
set_option maxHeartbeats 4000000 in
set_option maxRecDepth 100000 in
theorem w_X11_rodsAt_0 {x1 : Int32} (hM : xM p c cX11_rodsAt m s args RX11 2 D cy xtb a z) (hr : meth.sig.returnType = (some .long)) (hlk : meth.locks = false) {S' : xSt} {v' : Int64} {S : xSt} {q : (xSt × Int64)} (h : f_X11_rodsAt_0 x1 S = some q) (k0 : ∀ t0 : xSt × Int64, q = t0 → t0 = (S', v')) {H : Heap} {locs : List Loc} (hG : xG D cy xtb a S s H locs) {ls : Array Slot} (hl : lv_has ls 2 [(0, .ref (a 0)), (1, .int x1)]) : W p l e ({ frames := 10, cells := 0, slots := 0, locals := 238 } : Room) s m args below meth c H locs 0 0 (MQ below (xQl D cy xtb a S' v' s.heap.size) args s 0 0 (xA xtb a s.heap.size)) (F0 m 0 ls []) := by
  have hx := hM.1
  have hb := hM.2.1
  refine lv_iload_n hx hb dX11_rodsAt_0 rfl (lv_at hl 1 rfl) ?_
  refine lv_iconst (v := (0 : Int32)) hx hb dX11_rodsAt_1 (by decide) ?_
  refine lv_bipush (v := (99 : Int32)) hx hb dX11_rodsAt_2 (by decide) ?_
  refine x_cSi (As := [.int x1, .int (0 : Int32), .int (99 : Int32)]) (rest := []) hM hG xml_X11_97 xwt_X11_within h (fun S' v e => c_X11_within hM.2.2.2.2.2.2.1 e _) ⟨Nat.le_of_ble_eq_true rfl, Nat.le_of_ble_eq_true rfl⟩ rfl hl.1 rfl (Nat.le_of_ble_eq_true rfl) dX11_rodsAt_4 (fun S_1 v_2 H locs h hG => ?_)
  refine x_if_ne (tgt := 14) hM h dX11_rodsAt_7 (by decide) (fun c_3 h => ?_) (fun c_3 h => ?_)
  · refine lv_aload_n hx hb dX11_rodsAt_14 rfl (lv_at hl 0 rfl) ?_
    refine x_gr (r := 87) hM hG xfl_X11_49 xct_0 (by decide) rfl dX11_rodsAt_15 ?_
    refine lv_iload_n hx hb dX11_rodsAt_18 rfl (lv_at hl 1 rfl) ?_
    refine x_cVi (As := [.int x1]) (rest := []) hM hG xml_X11_192 xwi_X7_fewest xws_X7_fewest xct_87 (by decide) rfl h (fun S' v e => c_X7_fewest hM.2.2.2.2.2.2.1 e _) ⟨Nat.le_of_ble_eq_true rfl, Nat.le_of_ble_eq_true rfl⟩ rfl hl.1 rfl (Nat.le_of_ble_eq_true rfl) dX11_rodsAt_19 (fun S_4 v_5 H locs h hG => ?_)
    refine lv_bipush (v := (-2 : Int32)) hx hb dX11_rodsAt_22 (by decide) ?_
    refine x_icmp_ne (tgt := 33) hM h dX11_rodsAt_24 (by decide) (fun c_6 h => ?_) (fun c_6 h => ?_)
    · refine lv_aload_n hx hb dX11_rodsAt_33 rfl (lv_at hl 0 rfl) ?_
      refine x_gr (r := 87) hM hG xfl_X11_49 xct_0 (by decide) rfl dX11_rodsAt_34 ?_
      refine x_gi hM hG xfl_X11_201 xct_87 (by decide) rfl h dX11_rodsAt_37 (fun v_7 h => ?_)
      refine x_i2l hM h dX11_rodsAt_40 (fun v_8 h => ?_)
      exact x_rl hM hG hr hlk (k0 _ (Option.some.inj h).symm) dX11_rodsAt_41
    · refine lv_ldc2 (v := (-2 : Int64)) hx hb hM.2.2.2.1 (hM.2.2.2.2.1 _ xcn_X11_199) dX11_rodsAt_27 ?_
      refine lv_goto (tgt := 41) hx hb dX11_rodsAt_30 (by decide) ?_
      exact x_rl hM hG hr hlk (k0 _ (Option.some.inj h).symm) dX11_rodsAt_41
  · refine lv_ldc2 (v := (-9223372036854775808 : Int64)) hx hb hM.2.2.2.1 (hM.2.2.2.2.1 _ xcn_X11_197) dX11_rodsAt_10 ?_
    exact x_rl hM hG hr hlk (k0 _ (Option.some.inj h).symm) dX11_rodsAt_13
set_option maxHeartbeats 4000000 in
set_option maxRecDepth 100000 in
theorem c_X11_rodsAt {l : Launch} {D : va_G} {cy : Nat → ClassId} {a z : Nat → Nat} (hI : xI xtb a) {S : xSt} {x1 : Int32} {S' : xSt} {v' : Int64} (hf : f_X11_rodsAt S x1 = some (S', v')) (sz : Nat) : Met l yX11_rodsAt (Cond.code yX11_rodsAt cX11_rodsAt 2 (some .long) :: xTB) ({ frames := 10, cells := 0, slots := 0, locals := 238 } : Room) (va_Pc [.ref (a 0), .int x1] (xPre D cy xtb a z S sz)) (xQl D cy xtb a S' v' sz) 0 0 (xA xtb a sz) := by
  refine Met.ofW (cc := cX11_rodsAt) (maxL := 2) (ret := (some .long)) (by decide) rfl ?_
  intro p e s m args below meth c s₁ B hml hv
  obtain ⟨rfl, hsz, hP, hK, hE⟩ := hv
  subst hsz
  have hl := lv_entry ([.ref (a 0), .int x1]) (n := 2) (Nat.le_of_ble_eq_true rfl)
  rw [lg_entry_eq]
  generalize (lg_sl ([.ref (a 0), .int x1]) ++ List.replicate (2 - (lg_sl ([.ref (a 0), .int x1])).length) Slot.unset).toArray = ls at hl ⊢
  have hl : lv_has ls 2 [(0, .ref (a 0)), (1, .int x1)] := hl
  exact w_X11_rodsAt_0 ⟨B.exec, B.bytes, hml, findClass_of_methodNamed B.named, fun w hw => atoms_spec (ws := Cond.code yX11_rodsAt cX11_rodsAt 2 (some .long) :: xTB) B.pre w (List.mem_cons_of_mem _ hw), hK, hI, hE⟩ B.returns B.notSynchronized hf (fun t0 e => e.symm) ⟨hP, va_S.rf⟩ (lv_sub hl [0, 1] rfl)
set_option maxHeartbeats 4000000 in
set_option maxRecDepth 100000 in
theorem w_X11_turn_0 {x1 : Int32} {x2 : Int32} {x3 : Int32} (hM : xM p c cX11_turn m s args RX11 4 D cy xtb a z) (hr : meth.sig.returnType = (some .int)) (hlk : meth.locks = false) {S' : xSt} {v' : Int32} {S : xSt} {q : (xSt × Int32)} (h : f_X11_turn_0 x1 x2 x3 S = some q) (k0 : ∀ t0 : xSt × Int32, q = t0 → t0 = (S', v')) {H : Heap} {locs : List Loc} (hG : xG D cy xtb a S s H locs) {ls : Array Slot} (hl : lv_has ls 4 [(0, .ref (a 0)), (1, .int x1), (2, .int x2), (3, .int x3)]) : W p l e ({ frames := 6, cells := 0, slots := 0, locals := 148 } : Room) s m args below meth c H locs 0 0 (MQ below (xQi D cy xtb a S' v' s.heap.size) args s 0 0 (xA xtb a s.heap.size)) (F0 m 0 ls []) := by
  have hx := hM.1
  have hb := hM.2.1
  refine lv_iload_n hx hb dX11_turn_0 rfl (lv_at hl 1 rfl) ?_
  refine lv_iconst (v := (0 : Int32)) hx hb dX11_turn_1 (by decide) ?_
  refine lv_iconst (v := (3 : Int32)) hx hb dX11_turn_2 (by decide) ?_
  refine x_cSi (As := [.int x1, .int (0 : Int32), .int (3 : Int32)]) (rest := []) hM hG xml_X11_97 xwt_X11_within h (fun S' v e => c_X11_within hM.2.2.2.2.2.2.1 e _) ⟨Nat.le_of_ble_eq_true rfl, Nat.le_of_ble_eq_true rfl⟩ rfl hl.1 rfl (Nat.le_of_ble_eq_true rfl) dX11_turn_3 (fun S_1 v_2 H locs h hG => ?_)
  refine x_if_eq (tgt := 28) hM h dX11_turn_6 (by decide) (fun c_3 h => ?_) (fun c_3 h => ?_)
  · refine lv_iconst (v := (-1 : Int32)) hx hb dX11_turn_28 (by decide) ?_
    exact x_ri hM hG hr hlk rfl (k0 _ (Option.some.inj h).symm) dX11_turn_29
  · refine lv_iload_n hx hb dX11_turn_9 rfl (lv_at hl 2 rfl) ?_
    refine lv_iconst (v := (0 : Int32)) hx hb dX11_turn_10 (by decide) ?_
    refine lv_bipush (v := (20 : Int32)) hx hb dX11_turn_11 (by decide) ?_
    refine x_cSi (As := [.int x2, .int (0 : Int32), .int (20 : Int32)]) (rest := []) hM hG xml_X11_97 xwt_X11_within h (fun S' v e => c_X11_within hM.2.2.2.2.2.2.1 e _) ⟨Nat.le_of_ble_eq_true rfl, Nat.le_of_ble_eq_true rfl⟩ rfl hl.1 rfl (Nat.le_of_ble_eq_true rfl) dX11_turn_13 (fun S_4 v_5 H locs h hG => ?_)
    refine x_if_eq (tgt := 28) hM h dX11_turn_16 (by decide) (fun c_6 h => ?_) (fun c_6 h => ?_)
    · refine lv_iconst (v := (-1 : Int32)) hx hb dX11_turn_28 (by decide) ?_
      exact x_ri hM hG hr hlk rfl (k0 _ (Option.some.inj h).symm) dX11_turn_29
    · refine lv_iload_n hx hb dX11_turn_19 rfl (lv_at hl 3 rfl) ?_
      refine lv_iconst (v := (0 : Int32)) hx hb dX11_turn_20 (by decide) ?_
      refine lv_iconst (v := (1 : Int32)) hx hb dX11_turn_21 (by decide) ?_
      refine x_cSi (As := [.int x3, .int (0 : Int32), .int (1 : Int32)]) (rest := []) hM hG xml_X11_97 xwt_X11_within h (fun S' v e => c_X11_within hM.2.2.2.2.2.2.1 e _) ⟨Nat.le_of_ble_eq_true rfl, Nat.le_of_ble_eq_true rfl⟩ rfl hl.1 rfl (Nat.le_of_ble_eq_true rfl) dX11_turn_22 (fun S_7 v_8 H locs h hG => ?_)
      refine x_if_ne (tgt := 30) hM h dX11_turn_25 (by decide) (fun c_9 h => ?_) (fun c_9 h => ?_)
      · refine lv_aload_n hx hb dX11_turn_30 rfl (lv_at hl 0 rfl) ?_
        refine x_gr (r := 86) hM hG xfl_X11_40 xct_0 (by decide) rfl dX11_turn_31 ?_
        refine lv_iload_n hx hb dX11_turn_34 rfl (lv_at hl 1 rfl) ?_
        refine lv_iload_n hx hb dX11_turn_35 rfl (lv_at hl 2 rfl) ?_
        refine x_cVv (As := [.int x1, .int x2]) (rest := []) hM hG xml_X11_205 xwi_X10_seekTurn xws_X10_seekTurn xct_86 (by decide) rfl h (fun S' v e => c_X10_seekTurn hM.2.2.2.2.2.2.1 e _) ⟨Nat.le_of_ble_eq_true rfl, Nat.le_of_ble_eq_true rfl⟩ rfl hl.1 rfl (Nat.le_of_ble_eq_true rfl) dX11_turn_36 (fun S_10 v_11 H locs h hG => ?_)
        refine lv_iload_n hx hb dX11_turn_39 rfl (lv_at hl 3 rfl) ?_
        refine x_if_ne (tgt := 53) hM h dX11_turn_40 (by decide) (fun c_12 h => ?_) (fun c_12 h => ?_)
        · refine lv_aload_n hx hb dX11_turn_53 rfl (lv_at hl 0 rfl) ?_
          refine x_gr (r := 86) hM hG xfl_X11_40 xct_0 (by decide) rfl dX11_turn_54 ?_
          refine x_gi hM hG xfl_X11_212 xct_86 (by decide) rfl h dX11_turn_57 (fun v_13 h => ?_)
          exact x_ri hM hG hr hlk rfl (k0 _ (Option.some.inj h).symm) dX11_turn_60
        · refine lv_aload_n hx hb dX11_turn_43 rfl (lv_at hl 0 rfl) ?_
          refine x_gr (r := 86) hM hG xfl_X11_40 xct_0 (by decide) rfl dX11_turn_44 ?_
          refine x_gi hM hG xfl_X11_209 xct_86 (by decide) rfl h dX11_turn_47 (fun v_14 h => ?_)
          refine lv_goto (tgt := 60) hx hb dX11_turn_50 (by decide) ?_
          exact x_ri hM hG hr hlk rfl (k0 _ (Option.some.inj h).symm) dX11_turn_60
      · refine lv_iconst (v := (-1 : Int32)) hx hb dX11_turn_28 (by decide) ?_
        exact x_ri hM hG hr hlk rfl (k0 _ (Option.some.inj h).symm) dX11_turn_29
set_option maxHeartbeats 4000000 in
set_option maxRecDepth 100000 in
theorem c_X11_turn {l : Launch} {D : va_G} {cy : Nat → ClassId} {a z : Nat → Nat} (hI : xI xtb a) {S : xSt} {x1 : Int32} {x2 : Int32} {x3 : Int32} {S' : xSt} {v' : Int32} (hf : f_X11_turn S x1 x2 x3 = some (S', v')) (sz : Nat) : Met l yX11_turn (Cond.code yX11_turn cX11_turn 4 (some .int) :: xTB) ({ frames := 6, cells := 0, slots := 0, locals := 148 } : Room) (va_Pc [.ref (a 0), .int x1, .int x2, .int x3] (xPre D cy xtb a z S sz)) (xQi D cy xtb a S' v' sz) 0 0 (xA xtb a sz) := by
  refine Met.ofW (cc := cX11_turn) (maxL := 4) (ret := (some .int)) (by decide) rfl ?_
  intro p e s m args below meth c s₁ B hml hv
  obtain ⟨rfl, hsz, hP, hK, hE⟩ := hv
  subst hsz
  have hl := lv_entry ([.ref (a 0), .int x1, .int x2, .int x3]) (n := 4) (Nat.le_of_ble_eq_true rfl)
  rw [lg_entry_eq]
  generalize (lg_sl ([.ref (a 0), .int x1, .int x2, .int x3]) ++ List.replicate (4 - (lg_sl ([.ref (a 0), .int x1, .int x2, .int x3])).length) Slot.unset).toArray = ls at hl ⊢
  have hl : lv_has ls 4 [(0, .ref (a 0)), (1, .int x1), (2, .int x2), (3, .int x3)] := hl
  exact w_X11_turn_0 ⟨B.exec, B.bytes, hml, findClass_of_methodNamed B.named, fun w hw => atoms_spec (ws := Cond.code yX11_turn cX11_turn 4 (some .int) :: xTB) B.pre w (List.mem_cons_of_mem _ hw), hK, hI, hE⟩ B.returns B.notSynchronized hf (fun t0 e => e.symm) ⟨hP, va_S.rf⟩ (lv_sub hl [0, 1, 2, 3] rfl)
set_option maxHeartbeats 4000000 in
set_option maxRecDepth 100000 in
theorem w_X11_chimney_0 {x1 : Int32} {x2 : Int32} (hM : xM p c cX11_chimney m s args RX11 3 D cy xtb a z) (hr : meth.sig.returnType = (some .int)) (hlk : meth.locks = false) {S' : xSt} {v' : Int32} {S : xSt} {q : (xSt × Int32)} (h : f_X11_chimney_0 x1 x2 S = some q) (k0 : ∀ t0 : xSt × Int32, q = t0 → t0 = (S', v')) {H : Heap} {locs : List Loc} (hG : xG D cy xtb a S s H locs) {ls : Array Slot} (hl : lv_has ls 3 [(0, .ref (a 0)), (1, .int x1), (2, .int x2)]) : W p l e ({ frames := 6, cells := 0, slots := 0, locals := 146 } : Room) s m args below meth c H locs 0 0 (MQ below (xQi D cy xtb a S' v' s.heap.size) args s 0 0 (xA xtb a s.heap.size)) (F0 m 0 ls []) := by
  have hx := hM.1
  have hb := hM.2.1
  refine lv_iload_n hx hb dX11_chimney_0 rfl (lv_at hl 1 rfl) ?_
  refine lv_iconst (v := (0 : Int32)) hx hb dX11_chimney_1 (by decide) ?_
  refine lv_bipush (v := (20 : Int32)) hx hb dX11_chimney_2 (by decide) ?_
  refine x_cSi (As := [.int x1, .int (0 : Int32), .int (20 : Int32)]) (rest := []) hM hG xml_X11_97 xwt_X11_within h (fun S' v e => c_X11_within hM.2.2.2.2.2.2.1 e _) ⟨Nat.le_of_ble_eq_true rfl, Nat.le_of_ble_eq_true rfl⟩ rfl hl.1 rfl (Nat.le_of_ble_eq_true rfl) dX11_chimney_4 (fun S_1 v_2 H locs h hG => ?_)
  refine x_if_eq (tgt := 19) hM h dX11_chimney_7 (by decide) (fun c_3 h => ?_) (fun c_3 h => ?_)
  · refine lv_iconst (v := (-1 : Int32)) hx hb dX11_chimney_19 (by decide) ?_
    exact x_ri hM hG hr hlk rfl (k0 _ (Option.some.inj h).symm) dX11_chimney_20
  · refine lv_iload_n hx hb dX11_chimney_10 rfl (lv_at hl 2 rfl) ?_
    refine lv_iconst (v := (0 : Int32)) hx hb dX11_chimney_11 (by decide) ?_
    refine lv_iconst (v := (1 : Int32)) hx hb dX11_chimney_12 (by decide) ?_
    refine x_cSi (As := [.int x2, .int (0 : Int32), .int (1 : Int32)]) (rest := []) hM hG xml_X11_97 xwt_X11_within h (fun S' v e => c_X11_within hM.2.2.2.2.2.2.1 e _) ⟨Nat.le_of_ble_eq_true rfl, Nat.le_of_ble_eq_true rfl⟩ rfl hl.1 rfl (Nat.le_of_ble_eq_true rfl) dX11_chimney_13 (fun S_4 v_5 H locs h hG => ?_)
    refine x_if_ne (tgt := 21) hM h dX11_chimney_16 (by decide) (fun c_6 h => ?_) (fun c_6 h => ?_)
    · refine lv_aload_n hx hb dX11_chimney_21 rfl (lv_at hl 0 rfl) ?_
      refine x_gr (r := 86) hM hG xfl_X11_40 xct_0 (by decide) rfl dX11_chimney_22 ?_
      refine lv_iload_n hx hb dX11_chimney_25 rfl (lv_at hl 1 rfl) ?_
      refine x_cVv (As := [.int x1]) (rest := []) hM hG xml_X11_215 xwi_X10_seekChimney xws_X10_seekChimney xct_86 (by decide) rfl h (fun S' v e => c_X10_seekChimney hM.2.2.2.2.2.2.1 e _) ⟨Nat.le_of_ble_eq_true rfl, Nat.le_of_ble_eq_true rfl⟩ rfl hl.1 rfl (Nat.le_of_ble_eq_true rfl) dX11_chimney_26 (fun S_7 v_8 H locs h hG => ?_)
      refine lv_iload_n hx hb dX11_chimney_29 rfl (lv_at hl 2 rfl) ?_
      refine x_if_ne (tgt := 43) hM h dX11_chimney_30 (by decide) (fun c_9 h => ?_) (fun c_9 h => ?_)
      · refine lv_aload_n hx hb dX11_chimney_43 rfl (lv_at hl 0 rfl) ?_
        refine x_gr (r := 86) hM hG xfl_X11_40 xct_0 (by decide) rfl dX11_chimney_44 ?_
        refine x_gi hM hG xfl_X11_209 xct_86 (by decide) rfl h dX11_chimney_47 (fun v_10 h => ?_)
        exact x_ri hM hG hr hlk rfl (k0 _ (Option.some.inj h).symm) dX11_chimney_50
      · refine lv_aload_n hx hb dX11_chimney_33 rfl (lv_at hl 0 rfl) ?_
        refine x_gr (r := 86) hM hG xfl_X11_40 xct_0 (by decide) rfl dX11_chimney_34 ?_
        refine x_gi hM hG xfl_X11_212 xct_86 (by decide) rfl h dX11_chimney_37 (fun v_11 h => ?_)
        refine lv_goto (tgt := 50) hx hb dX11_chimney_40 (by decide) ?_
        exact x_ri hM hG hr hlk rfl (k0 _ (Option.some.inj h).symm) dX11_chimney_50
    · refine lv_iconst (v := (-1 : Int32)) hx hb dX11_chimney_19 (by decide) ?_
      exact x_ri hM hG hr hlk rfl (k0 _ (Option.some.inj h).symm) dX11_chimney_20
set_option maxHeartbeats 4000000 in
set_option maxRecDepth 100000 in
theorem c_X11_chimney {l : Launch} {D : va_G} {cy : Nat → ClassId} {a z : Nat → Nat} (hI : xI xtb a) {S : xSt} {x1 : Int32} {x2 : Int32} {S' : xSt} {v' : Int32} (hf : f_X11_chimney S x1 x2 = some (S', v')) (sz : Nat) : Met l yX11_chimney (Cond.code yX11_chimney cX11_chimney 3 (some .int) :: xTB) ({ frames := 6, cells := 0, slots := 0, locals := 146 } : Room) (va_Pc [.ref (a 0), .int x1, .int x2] (xPre D cy xtb a z S sz)) (xQi D cy xtb a S' v' sz) 0 0 (xA xtb a sz) := by
  refine Met.ofW (cc := cX11_chimney) (maxL := 3) (ret := (some .int)) (by decide) rfl ?_
  intro p e s m args below meth c s₁ B hml hv
  obtain ⟨rfl, hsz, hP, hK, hE⟩ := hv
  subst hsz
  have hl := lv_entry ([.ref (a 0), .int x1, .int x2]) (n := 3) (Nat.le_of_ble_eq_true rfl)
  rw [lg_entry_eq]
  generalize (lg_sl ([.ref (a 0), .int x1, .int x2]) ++ List.replicate (3 - (lg_sl ([.ref (a 0), .int x1, .int x2])).length) Slot.unset).toArray = ls at hl ⊢
  have hl : lv_has ls 3 [(0, .ref (a 0)), (1, .int x1), (2, .int x2)] := hl
  exact w_X11_chimney_0 ⟨B.exec, B.bytes, hml, findClass_of_methodNamed B.named, fun w hw => atoms_spec (ws := Cond.code yX11_chimney cX11_chimney 3 (some .int) :: xTB) B.pre w (List.mem_cons_of_mem _ hw), hK, hI, hE⟩ B.returns B.notSynchronized hf (fun t0 e => e.symm) ⟨hP, va_S.rf⟩ (lv_sub hl [0, 1, 2] rfl)
set_option maxHeartbeats 4000000 in
set_option maxRecDepth 100000 in
theorem w_X11_latest_0 (hM : xM p c cX11_latest m s args RX11 1 D cy xtb a z) (hr : meth.sig.returnType = (some .int)) (hlk : meth.locks = false) {S' : xSt} {v' : Int32} {S : xSt} {q : (xSt × Int32)} (h : f_X11_latest_0 S = some q) (k0 : ∀ t0 : xSt × Int32, q = t0 → t0 = (S', v')) {H : Heap} {locs : List Loc} (hG : xG D cy xtb a S s H locs) {ls : Array Slot} (hl : lv_has ls 1 [(0, .ref (a 0))]) : W p l e ({ frames := 7, cells := 0, slots := 0, locals := 168 } : Room) s m args below meth c H locs 0 0 (MQ below (xQi D cy xtb a S' v' s.heap.size) args s 0 0 (xA xtb a s.heap.size)) (F0 m 0 ls []) := by
  have hx := hM.1
  have hb := hM.2.1
  refine lv_aload_n hx hb dX11_latest_0 rfl (lv_at hl 0 rfl) ?_
  refine x_gr (r := 86) hM hG xfl_X11_40 xct_0 (by decide) rfl dX11_latest_1 ?_
  refine x_cVi (As := []) (rest := []) hM hG xml_X11_219 xwi_X10_latestTurn xws_X10_latestTurn xct_86 (by decide) rfl h (fun S' v e => c_X10_latestTurn hM.2.2.2.2.2.2.1 e _) ⟨Nat.le_of_ble_eq_true rfl, Nat.le_of_ble_eq_true rfl⟩ rfl hl.1 rfl (Nat.le_of_ble_eq_true rfl) dX11_latest_4 (fun S_1 v_2 H locs h hG => ?_)
  exact x_ri hM hG hr hlk rfl (k0 _ (Option.some.inj h).symm) dX11_latest_7
set_option maxHeartbeats 4000000 in
set_option maxRecDepth 100000 in
theorem c_X11_latest {l : Launch} {D : va_G} {cy : Nat → ClassId} {a z : Nat → Nat} (hI : xI xtb a) {S : xSt} {S' : xSt} {v' : Int32} (hf : f_X11_latest S = some (S', v')) (sz : Nat) : Met l yX11_latest (Cond.code yX11_latest cX11_latest 1 (some .int) :: xTB) ({ frames := 7, cells := 0, slots := 0, locals := 168 } : Room) (va_Pc [.ref (a 0)] (xPre D cy xtb a z S sz)) (xQi D cy xtb a S' v' sz) 0 0 (xA xtb a sz) := by
  refine Met.ofW (cc := cX11_latest) (maxL := 1) (ret := (some .int)) (by decide) rfl ?_
  intro p e s m args below meth c s₁ B hml hv
  obtain ⟨rfl, hsz, hP, hK, hE⟩ := hv
  subst hsz
  have hl := lv_entry ([.ref (a 0)]) (n := 1) (Nat.le_of_ble_eq_true rfl)
  rw [lg_entry_eq]
  generalize (lg_sl ([.ref (a 0)]) ++ List.replicate (1 - (lg_sl ([.ref (a 0)])).length) Slot.unset).toArray = ls at hl ⊢
  have hl : lv_has ls 1 [(0, .ref (a 0))] := hl
  exact w_X11_latest_0 ⟨B.exec, B.bytes, hml, findClass_of_methodNamed B.named, fun w hw => atoms_spec (ws := Cond.code yX11_latest cX11_latest 1 (some .int) :: xTB) B.pre w (List.mem_cons_of_mem _ hw), hK, hI, hE⟩ B.returns B.notSynchronized hf (fun t0 e => e.symm) ⟨hP, va_S.rf⟩ (lv_sub hl [0] rfl)
set_option maxHeartbeats 4000000 in
set_option maxRecDepth 100000 in
theorem w_X11_lay_0 {x1 : Int32} {x2 : Int32} {x3 : Int32} (hM : xM p c cX11_lay m s args RX11 5 D cy xtb a z) (hr : meth.sig.returnType = (some .int)) (hlk : meth.locks = false) {S' : xSt} {v' : Int32} {S : xSt} {q : (xSt × Int32)} (h : f_X11_lay_0 x1 x2 x3 S = some q) (k0 : ∀ t0 : xSt × Int32, q = t0 → t0 = (S', v')) {H : Heap} {locs : List Loc} (hG : xG D cy xtb a S s H locs) {ls : Array Slot} (hl : lv_has ls 5 [(0, .ref (a 0)), (1, .int x1), (2, .int x2), (3, .int x3)]) : W p l e ({ frames := 7, cells := 0, slots := 0, locals := 170 } : Room) s m args below meth c H locs 0 0 (MQ below (xQi D cy xtb a S' v' s.heap.size) args s 0 0 (xA xtb a s.heap.size)) (F0 m 0 ls []) := by
  have hx := hM.1
  have hb := hM.2.1
  refine lv_iload_n hx hb dX11_lay_0 rfl (lv_at hl 1 rfl) ?_
  refine x_cSi (As := [.int x1]) (rest := []) hM hG xml_X11_105 xwt_X11_isShelf h (fun S' v e => c_X11_isShelf hM.2.2.2.2.2.2.1 e _) ⟨Nat.le_of_ble_eq_true rfl, Nat.le_of_ble_eq_true rfl⟩ rfl hl.1 rfl (Nat.le_of_ble_eq_true rfl) dX11_lay_1 (fun S_1 v_2 H locs h hG => ?_)
  refine x_if_eq (tgt := 22) hM h dX11_lay_4 (by decide) (fun c_3 h => ?_) (fun c_3 h => ?_)
  · refine lv_iconst (v := (-1 : Int32)) hx hb dX11_lay_22 (by decide) ?_
    exact x_ri hM hG hr hlk rfl (k0 _ (Option.some.inj h).symm) dX11_lay_23
  · refine lv_iload_n hx hb dX11_lay_7 rfl (lv_at hl 2 rfl) ?_
    refine lv_iconst (v := (0 : Int32)) hx hb dX11_lay_8 (by decide) ?_
    refine lv_bipush (v := (8 : Int32)) hx hb dX11_lay_9 (by decide) ?_
    refine x_cSi (As := [.int x2, .int (0 : Int32), .int (8 : Int32)]) (rest := []) hM hG xml_X11_97 xwt_X11_within h (fun S' v e => c_X11_within hM.2.2.2.2.2.2.1 e _) ⟨Nat.le_of_ble_eq_true rfl, Nat.le_of_ble_eq_true rfl⟩ rfl hl.1 rfl (Nat.le_of_ble_eq_true rfl) dX11_lay_11 (fun S_4 v_5 H locs h hG => ?_)
    refine x_if_eq (tgt := 22) hM h dX11_lay_14 (by decide) (fun c_6 h => ?_) (fun c_6 h => ?_)
    · refine lv_iconst (v := (-1 : Int32)) hx hb dX11_lay_22 (by decide) ?_
      exact x_ri hM hG hr hlk rfl (k0 _ (Option.some.inj h).symm) dX11_lay_23
    · refine lv_iload_n hx hb dX11_lay_17 rfl (lv_at hl 3 rfl) ?_
      refine lv_iconst (v := (-1 : Int32)) hx hb dX11_lay_18 (by decide) ?_
      refine x_icmp_ge (tgt := 24) hM h dX11_lay_19 (by decide) (fun c_7 h => ?_) (fun c_7 h => ?_)
      · refine lv_aload_n hx hb dX11_lay_24 rfl (lv_at hl 0 rfl) ?_
        refine x_gr (r := 1) hM hG xfl_X11_92 xct_0 (by decide) rfl dX11_lay_25 ?_
        refine lv_iload_n hx hb dX11_lay_28 rfl (lv_at hl 1 rfl) ?_
        refine x_aald5 hM hG xct_1 h dX11_lay_29 (fun hi_8 h => ?_)
        refine x_cVi (As := []) (rest := []) hM hG xml_X11_109 xwi_X8_refusalOfBytes xws_X8_refusalOfBytes (xih_shelf hi_8).1 (by decide) rfl h (fun S' v e => c_X8_refusalOfBytes hM.2.2.2.2.2.2.1 (xih_shelf hi_8) e _) ⟨Nat.le_of_ble_eq_true rfl, Nat.le_of_ble_eq_true rfl⟩ rfl hl.1 rfl (Nat.le_of_ble_eq_true rfl) dX11_lay_30 (fun S_9 v_10 H locs h hG => ?_)
        refine lv_istore (lv' := [(4, .int v_10), (0, .ref (a 0)), (1, .int x1), (2, .int x2), (3, .int x3)]) hx hb dX11_lay_33 hl (by decide) rfl (fun ls hl => ?_)
        refine lv_iload hx hb dX11_lay_35 (lv_at hl 0 rfl) ?_
        refine x_if_eq (tgt := 43) hM h dX11_lay_37 (by decide) (fun c_11 h => ?_) (fun c_11 h => ?_)
        · refine lv_aload_n hx hb dX11_lay_43 rfl (lv_at hl 1 rfl) ?_
          refine x_gr (r := 89) hM hG xfl_X11_56 xct_0 (by decide) rfl dX11_lay_44 ?_
          refine lv_aload_n hx hb dX11_lay_47 rfl (lv_at hl 1 rfl) ?_
          refine x_gr (r := 1) hM hG xfl_X11_92 xct_0 (by decide) rfl dX11_lay_48 ?_
          refine lv_iload_n hx hb dX11_lay_51 rfl (lv_at hl 2 rfl) ?_
          refine x_aald5 hM hG xct_1 h dX11_lay_52 (fun hi_12 h => ?_)
          refine lv_iload_n hx hb dX11_lay_53 rfl (lv_at hl 3 rfl) ?_
          refine x_cVv (As := [.ref (a (104 + 2 * x1.toNatClampNeg)), .int x2]) (rest := []) hM hG xml_X11_222 xwi_X6_seek xws_X6_seek xct_89 (by decide) rfl h (fun S' v e => c_X6_seek hM.2.2.2.2.2.2.1 (xih_shelf hi_12) e _) ⟨Nat.le_of_ble_eq_true rfl, Nat.le_of_ble_eq_true rfl⟩ rfl hl.1 rfl (Nat.le_of_ble_eq_true rfl) dX11_lay_54 (fun S_13 v_14 H locs h hG => ?_)
          refine lv_iload_n hx hb dX11_lay_57 rfl (lv_at hl 4 rfl) ?_
          refine x_if_ge (tgt := 71) hM h dX11_lay_58 (by decide) (fun c_15 h => ?_) (fun c_15 h => ?_)
          · refine lv_aload_n hx hb dX11_lay_71 rfl (lv_at hl 1 rfl) ?_
            refine x_gr (r := 89) hM hG xfl_X11_56 xct_0 (by decide) rfl dX11_lay_72 ?_
            refine lv_iload_n hx hb dX11_lay_75 rfl (lv_at hl 4 rfl) ?_
            refine x_cVi (As := [.int x3]) (rest := []) hM hG xml_X11_227 xwi_X6_placeOf xws_X6_placeOf xct_89 (by decide) rfl h (fun S' v e => c_X6_placeOf hM.2.2.2.2.2.2.1 e _) ⟨Nat.le_of_ble_eq_true rfl, Nat.le_of_ble_eq_true rfl⟩ rfl hl.1 rfl (Nat.le_of_ble_eq_true rfl) dX11_lay_76 (fun S_16 v_17 H locs h hG => ?_)
            exact x_ri hM hG hr hlk rfl (k0 _ (Option.some.inj h).symm) dX11_lay_79
          · refine lv_aload_n hx hb dX11_lay_61 rfl (lv_at hl 1 rfl) ?_
            refine x_gr (r := 89) hM hG xfl_X11_56 xct_0 (by decide) rfl dX11_lay_62 ?_
            refine x_gi hM hG xfl_X11_226 xct_89 (by decide) rfl h dX11_lay_65 (fun v_18 h => ?_)
            refine lv_goto (tgt := 79) hx hb dX11_lay_68 (by decide) ?_
            exact x_ri hM hG hr hlk rfl (k0 _ (Option.some.inj h).symm) dX11_lay_79
        · refine lv_iload hx hb dX11_lay_40 (lv_at hl 0 rfl) ?_
          exact x_ri hM hG hr hlk rfl (k0 _ (Option.some.inj h).symm) dX11_lay_42
      · refine lv_iconst (v := (-1 : Int32)) hx hb dX11_lay_22 (by decide) ?_
        exact x_ri hM hG hr hlk rfl (k0 _ (Option.some.inj h).symm) dX11_lay_23
set_option maxHeartbeats 4000000 in
set_option maxRecDepth 100000 in
theorem c_X11_lay {l : Launch} {D : va_G} {cy : Nat → ClassId} {a z : Nat → Nat} (hI : xI xtb a) {S : xSt} {x1 : Int32} {x2 : Int32} {x3 : Int32} {S' : xSt} {v' : Int32} (hf : f_X11_lay S x1 x2 x3 = some (S', v')) (sz : Nat) : Met l yX11_lay (Cond.code yX11_lay cX11_lay 5 (some .int) :: xTB) ({ frames := 7, cells := 0, slots := 0, locals := 170 } : Room) (va_Pc [.ref (a 0), .int x1, .int x2, .int x3] (xPre D cy xtb a z S sz)) (xQi D cy xtb a S' v' sz) 0 0 (xA xtb a sz) := by
  refine Met.ofW (cc := cX11_lay) (maxL := 5) (ret := (some .int)) (by decide) rfl ?_
  intro p e s m args below meth c s₁ B hml hv
  obtain ⟨rfl, hsz, hP, hK, hE⟩ := hv
  subst hsz
  have hl := lv_entry ([.ref (a 0), .int x1, .int x2, .int x3]) (n := 5) (Nat.le_of_ble_eq_true rfl)
  rw [lg_entry_eq]
  generalize (lg_sl ([.ref (a 0), .int x1, .int x2, .int x3]) ++ List.replicate (5 - (lg_sl ([.ref (a 0), .int x1, .int x2, .int x3])).length) Slot.unset).toArray = ls at hl ⊢
  have hl : lv_has ls 5 [(0, .ref (a 0)), (1, .int x1), (2, .int x2), (3, .int x3)] := hl
  exact w_X11_lay_0 ⟨B.exec, B.bytes, hml, findClass_of_methodNamed B.named, fun w hw => atoms_spec (ws := Cond.code yX11_lay cX11_lay 5 (some .int) :: xTB) B.pre w (List.mem_cons_of_mem _ hw), hK, hI, hE⟩ B.returns B.notSynchronized hf (fun t0 e => e.symm) ⟨hP, va_S.rf⟩ (lv_sub hl [0, 1, 2, 3] rfl)
set_option maxHeartbeats 4000000 in
set_option maxRecDepth 100000 in
theorem w_X11_worth_0 (hM : xM p c cX11_worth m s args RX11 1 D cy xtb a z) (hr : meth.sig.returnType = (some .int)) (hlk : meth.locks = false) {S' : xSt} {v' : Int32} {S : xSt} {q : (xSt × Int32)} (h : f_X11_worth_0 S = some q) (k0 : ∀ t0 : xSt × Int32, q = t0 → t0 = (S', v')) {H : Heap} {locs : List Loc} (hG : xG D cy xtb a S s H locs) {ls : Array Slot} (hl : lv_has ls 1 [(0, .ref (a 0))]) : W p l e ({ frames := 2, cells := 0, slots := 0, locals := 43 } : Room) s m args below meth c H locs 0 0 (MQ below (xQi D cy xtb a S' v' s.heap.size) args s 0 0 (xA xtb a s.heap.size)) (F0 m 0 ls []) := by
  have hx := hM.1
  have hb := hM.2.1
  refine lv_aload_n hx hb dX11_worth_0 rfl (lv_at hl 0 rfl) ?_
  refine x_gr (r := 16) hM hG xfl_X11_28 xct_0 (by decide) rfl dX11_worth_1 ?_
  refine x_cVi (As := []) (rest := []) hM hG xml_X11_230 xwi_X4_value xws_X4_value xih_hay.1 (by decide) rfl h (fun S' v e => c_X4_value hM.2.2.2.2.2.2.1 xih_hay e _) ⟨Nat.le_of_ble_eq_true rfl, Nat.le_of_ble_eq_true rfl⟩ rfl hl.1 rfl (Nat.le_of_ble_eq_true rfl) dX11_worth_4 (fun S_1 v_2 H locs h hG => ?_)
  exact x_ri hM hG hr hlk rfl (k0 _ (Option.some.inj h).symm) dX11_worth_7
set_option maxHeartbeats 4000000 in
set_option maxRecDepth 100000 in
theorem c_X11_worth {l : Launch} {D : va_G} {cy : Nat → ClassId} {a z : Nat → Nat} (hI : xI xtb a) {S : xSt} {S' : xSt} {v' : Int32} (hf : f_X11_worth S = some (S', v')) (sz : Nat) : Met l yX11_worth (Cond.code yX11_worth cX11_worth 1 (some .int) :: xTB) ({ frames := 2, cells := 0, slots := 0, locals := 43 } : Room) (va_Pc [.ref (a 0)] (xPre D cy xtb a z S sz)) (xQi D cy xtb a S' v' sz) 0 0 (xA xtb a sz) := by
  refine Met.ofW (cc := cX11_worth) (maxL := 1) (ret := (some .int)) (by decide) rfl ?_
  intro p e s m args below meth c s₁ B hml hv
  obtain ⟨rfl, hsz, hP, hK, hE⟩ := hv
  subst hsz
  have hl := lv_entry ([.ref (a 0)]) (n := 1) (Nat.le_of_ble_eq_true rfl)
  rw [lg_entry_eq]
  generalize (lg_sl ([.ref (a 0)]) ++ List.replicate (1 - (lg_sl ([.ref (a 0)])).length) Slot.unset).toArray = ls at hl ⊢
  have hl : lv_has ls 1 [(0, .ref (a 0))] := hl
  exact w_X11_worth_0 ⟨B.exec, B.bytes, hml, findClass_of_methodNamed B.named, fun w hw => atoms_spec (ws := Cond.code yX11_worth cX11_worth 1 (some .int) :: xTB) B.pre w (List.mem_cons_of_mem _ hw), hK, hI, hE⟩ B.returns B.notSynchronized hf (fun t0 e => e.symm) ⟨hP, va_S.rf⟩ (lv_sub hl [0] rfl)
set_option maxHeartbeats 4000000 in
set_option maxRecDepth 100000 in
theorem w_X11_sell_0 {x1 : Int32} {x2 : Int32} {x3 : Int32} (hM : xM p c cX11_sell m s args RX11 4 D cy xtb a z) (hr : meth.sig.returnType = (some .int)) (hlk : meth.locks = false) {S' : xSt} {v' : Int32} {S : xSt} {q : (xSt × Int32)} (h : f_X11_sell_0 x1 x2 x3 S = some q) (k0 : ∀ t0 : xSt × Int32, q = t0 → t0 = (S', v')) {H : Heap} {locs : List Loc} (hG : xG D cy xtb a S s H locs) {ls : Array Slot} (hl : lv_has ls 4 [(0, .ref (a 0)), (1, .int x1), (2, .int x2), (3, .int x3)]) : W p l e ({ frames := 5, cells := 0, slots := 0, locals := 126 } : Room) s m args below meth c H locs 0 0 (MQ below (xQi D cy xtb a S' v' s.heap.size) args s 0 0 (xA xtb a s.heap.size)) (F0 m 0 ls []) := by
  have hx := hM.1
  have hb := hM.2.1
  refine lv_iload_n hx hb dX11_sell_0 rfl (lv_at hl 1 rfl) ?_
  refine lv_iconst (v := (0 : Int32)) hx hb dX11_sell_1 (by decide) ?_
  refine lv_bipush (v := (40 : Int32)) hx hb dX11_sell_2 (by decide) ?_
  refine x_cSi (As := [.int x1, .int (0 : Int32), .int (40 : Int32)]) (rest := []) hM hG xml_X11_97 xwt_X11_within h (fun S' v e => c_X11_within hM.2.2.2.2.2.2.1 e _) ⟨Nat.le_of_ble_eq_true rfl, Nat.le_of_ble_eq_true rfl⟩ rfl hl.1 rfl (Nat.le_of_ble_eq_true rfl) dX11_sell_4 (fun S_1 v_2 H locs h hG => ?_)
  refine x_if_eq (tgt := 29) hM h dX11_sell_7 (by decide) (fun c_3 h => ?_) (fun c_3 h => ?_)
  · refine lv_ldc (v := (-2000000000 : Int32)) hx hb hM.2.2.2.1 (hM.2.2.2.2.1 _ xcn_X11_163) dX11_sell_29 ?_
    exact x_ri hM hG hr hlk rfl (k0 _ (Option.some.inj h).symm) dX11_sell_31
  · refine lv_iload_n hx hb dX11_sell_10 rfl (lv_at hl 2 rfl) ?_
    refine lv_iconst (v := (0 : Int32)) hx hb dX11_sell_11 (by decide) ?_
    refine lv_bipush (v := (99 : Int32)) hx hb dX11_sell_12 (by decide) ?_
    refine x_cSi (As := [.int x2, .int (0 : Int32), .int (99 : Int32)]) (rest := []) hM hG xml_X11_97 xwt_X11_within h (fun S' v e => c_X11_within hM.2.2.2.2.2.2.1 e _) ⟨Nat.le_of_ble_eq_true rfl, Nat.le_of_ble_eq_true rfl⟩ rfl hl.1 rfl (Nat.le_of_ble_eq_true rfl) dX11_sell_14 (fun S_4 v_5 H locs h hG => ?_)
    refine x_if_eq (tgt := 29) hM h dX11_sell_17 (by decide) (fun c_6 h => ?_) (fun c_6 h => ?_)
    · refine lv_ldc (v := (-2000000000 : Int32)) hx hb hM.2.2.2.1 (hM.2.2.2.2.1 _ xcn_X11_163) dX11_sell_29 ?_
      exact x_ri hM hG hr hlk rfl (k0 _ (Option.some.inj h).symm) dX11_sell_31
    · refine lv_iload_n hx hb dX11_sell_20 rfl (lv_at hl 3 rfl) ?_
      refine lv_iconst (v := (0 : Int32)) hx hb dX11_sell_21 (by decide) ?_
      refine lv_iconst (v := (1 : Int32)) hx hb dX11_sell_22 (by decide) ?_
      refine x_cSi (As := [.int x3, .int (0 : Int32), .int (1 : Int32)]) (rest := []) hM hG xml_X11_97 xwt_X11_within h (fun S' v e => c_X11_within hM.2.2.2.2.2.2.1 e _) ⟨Nat.le_of_ble_eq_true rfl, Nat.le_of_ble_eq_true rfl⟩ rfl hl.1 rfl (Nat.le_of_ble_eq_true rfl) dX11_sell_23 (fun S_7 v_8 H locs h hG => ?_)
      refine x_if_ne (tgt := 32) hM h dX11_sell_26 (by decide) (fun c_9 h => ?_) (fun c_9 h => ?_)
      · refine lv_aload_n hx hb dX11_sell_32 rfl (lv_at hl 0 rfl) ?_
        refine x_gr (r := 86) hM hG xfl_X11_40 xct_0 (by decide) rfl dX11_sell_33 ?_
        refine lv_iload_n hx hb dX11_sell_36 rfl (lv_at hl 1 rfl) ?_
        refine lv_iload_n hx hb dX11_sell_37 rfl (lv_at hl 2 rfl) ?_
        refine x_cVv (As := [.int x1, .int x2]) (rest := []) hM hG xml_X11_233 xwi_X10_seekSale xws_X10_seekSale xct_86 (by decide) rfl h (fun S' v e => c_X10_seekSale hM.2.2.2.2.2.2.1 e _) ⟨Nat.le_of_ble_eq_true rfl, Nat.le_of_ble_eq_true rfl⟩ rfl hl.1 rfl (Nat.le_of_ble_eq_true rfl) dX11_sell_38 (fun S_10 v_11 H locs h hG => ?_)
        refine lv_iload_n hx hb dX11_sell_41 rfl (lv_at hl 3 rfl) ?_
        refine x_if_ne (tgt := 55) hM h dX11_sell_42 (by decide) (fun c_12 h => ?_) (fun c_12 h => ?_)
        · refine lv_aload_n hx hb dX11_sell_55 rfl (lv_at hl 0 rfl) ?_
          refine x_gr (r := 86) hM hG xfl_X11_40 xct_0 (by decide) rfl dX11_sell_56 ?_
          refine x_gi hM hG xfl_X11_209 xct_86 (by decide) rfl h dX11_sell_59 (fun v_13 h => ?_)
          exact x_ri hM hG hr hlk rfl (k0 _ (Option.some.inj h).symm) dX11_sell_62
        · refine lv_aload_n hx hb dX11_sell_45 rfl (lv_at hl 0 rfl) ?_
          refine x_gr (r := 86) hM hG xfl_X11_40 xct_0 (by decide) rfl dX11_sell_46 ?_
          refine x_gi hM hG xfl_X11_212 xct_86 (by decide) rfl h dX11_sell_49 (fun v_14 h => ?_)
          refine lv_goto (tgt := 62) hx hb dX11_sell_52 (by decide) ?_
          exact x_ri hM hG hr hlk rfl (k0 _ (Option.some.inj h).symm) dX11_sell_62
      · refine lv_ldc (v := (-2000000000 : Int32)) hx hb hM.2.2.2.1 (hM.2.2.2.2.1 _ xcn_X11_163) dX11_sell_29 ?_
        exact x_ri hM hG hr hlk rfl (k0 _ (Option.some.inj h).symm) dX11_sell_31
set_option maxHeartbeats 4000000 in
set_option maxRecDepth 100000 in
theorem c_X11_sell {l : Launch} {D : va_G} {cy : Nat → ClassId} {a z : Nat → Nat} (hI : xI xtb a) {S : xSt} {x1 : Int32} {x2 : Int32} {x3 : Int32} {S' : xSt} {v' : Int32} (hf : f_X11_sell S x1 x2 x3 = some (S', v')) (sz : Nat) : Met l yX11_sell (Cond.code yX11_sell cX11_sell 4 (some .int) :: xTB) ({ frames := 5, cells := 0, slots := 0, locals := 126 } : Room) (va_Pc [.ref (a 0), .int x1, .int x2, .int x3] (xPre D cy xtb a z S sz)) (xQi D cy xtb a S' v' sz) 0 0 (xA xtb a sz) := by
  refine Met.ofW (cc := cX11_sell) (maxL := 4) (ret := (some .int)) (by decide) rfl ?_
  intro p e s m args below meth c s₁ B hml hv
  obtain ⟨rfl, hsz, hP, hK, hE⟩ := hv
  subst hsz
  have hl := lv_entry ([.ref (a 0), .int x1, .int x2, .int x3]) (n := 4) (Nat.le_of_ble_eq_true rfl)
  rw [lg_entry_eq]
  generalize (lg_sl ([.ref (a 0), .int x1, .int x2, .int x3]) ++ List.replicate (4 - (lg_sl ([.ref (a 0), .int x1, .int x2, .int x3])).length) Slot.unset).toArray = ls at hl ⊢
  have hl : lv_has ls 4 [(0, .ref (a 0)), (1, .int x1), (2, .int x2), (3, .int x3)] := hl
  exact w_X11_sell_0 ⟨B.exec, B.bytes, hml, findClass_of_methodNamed B.named, fun w hw => atoms_spec (ws := Cond.code yX11_sell cX11_sell 4 (some .int) :: xTB) B.pre w (List.mem_cons_of_mem _ hw), hK, hI, hE⟩ B.returns B.notSynchronized hf (fun t0 e => e.symm) ⟨hP, va_S.rf⟩ (lv_sub hl [0, 1, 2, 3] rfl)
set_option maxHeartbeats 4000000 in
set_option maxRecDepth 100000 in
theorem w_X11_whose_37 {x1 : Int32} {x2 : Int32} {x3 : Int32} (hM : xM p c cX11_whose m s args RX11 5 D cy xtb a z) (hr : meth.sig.returnType = (some .int)) (hlk : meth.locks = false) {S' : xSt} {v' : Int32} {S : xSt} {q : ((xSt × Int32 × Int32 × Int32) ⊕ (xSt × Int32))} (h : f_X11_whose_37 x1 x2 x3 S = some q) (k0 : ∀ t0 : xSt × Int32, q = (.inr t0) → t0 = (S', v')) (k1 : ∀ (S : xSt) (x1 : Int32) (x2 : Int32) (x3 : Int32), q = (.inl (S, x1, x2, x3)) → ∀ (H : Heap) (locs : List Loc) (ls : Array Slot), xG D cy xtb a S s H locs → lv_has ls 5 [(0, .ref (a 0)), (1, .int x1), (2, .int x2), (3, .int x3)] → W p l e ({ frames := 2, cells := 0, slots := 0, locals := 44 } : Room) s m args below meth c H locs 0 0 (MQ below (xQi D cy xtb a S' v' s.heap.size) args s 0 0 (xA xtb a s.heap.size)) (F0 m 7 ls [])) {H : Heap} {locs : List Loc} (hG : xG D cy xtb a S s H locs) {ls : Array Slot} (hl : lv_has ls 5 [(0, .ref (a 0)), (1, .int x1), (2, .int x2), (3, .int x3)]) : W p l e ({ frames := 2, cells := 0, slots := 0, locals := 44 } : Room) s m args below meth c H locs 0 0 (MQ below (xQi D cy xtb a S' v' s.heap.size) args s 0 0 (xA xtb a s.heap.size)) (F0 m 37 ls []) := by
  have hx := hM.1
  have hb := hM.2.1
  refine x_iinc hM (fun v => [(3, .int v), (0, .ref (a 0)), (1, .int x1), (2, .int x2)]) h dX11_whose_37 hl (k := 3) rfl (by decide) (by decide) (fun _ => rfl) (fun v_1 ls h hl => ?_)
  refine lv_goto (tgt := 7) hx hb dX11_whose_40 (by decide) ?_
  exact k1 _ _ _ _ (Option.some.inj h).symm _ _ _ hG (lv_sub hl [1, 2, 3, 0] rfl)
set_option maxHeartbeats 4000000 in
set_option maxRecDepth 100000 in
theorem w_X11_whose_7 {x1 : Int32} {x2 : Int32} {x3 : Int32} (hM : xM p c cX11_whose m s args RX11 5 D cy xtb a z) (hr : meth.sig.returnType = (some .int)) (hlk : meth.locks = false) {S' : xSt} {v' : Int32} {S : xSt} {q : ((xSt × Int32 × Int32 × Int32) ⊕ (xSt × Int32))} (h : f_X11_whose_7 S x1 x2 x3 = some q) (k0 : ∀ t0 : xSt × Int32, q = (.inr t0) → t0 = (S', v')) (k1 : ∀ (S : xSt) (x1 : Int32) (x2 : Int32) (x3 : Int32), q = (.inl (S, x1, x2, x3)) → ∀ (H : Heap) (locs : List Loc) (ls : Array Slot), xG D cy xtb a S s H locs → lv_has ls 5 [(0, .ref (a 0)), (1, .int x1), (2, .int x2), (3, .int x3)] → W p l e ({ frames := 2, cells := 0, slots := 0, locals := 44 } : Room) s m args below meth c H locs 0 0 (MQ below (xQi D cy xtb a S' v' s.heap.size) args s 0 0 (xA xtb a s.heap.size)) (F0 m 7 ls [])) {H : Heap} {locs : List Loc} (hG : xG D cy xtb a S s H locs) {ls : Array Slot} (hl : lv_has ls 5 [(0, .ref (a 0)), (1, .int x1), (2, .int x2), (3, .int x3)]) : W p l e ({ frames := 2, cells := 0, slots := 0, locals := 44 } : Room) s m args below meth c H locs 0 0 (MQ below (xQi D cy xtb a S' v' s.heap.size) args s 0 0 (xA xtb a s.heap.size)) (F0 m 7 ls []) := by
  have hx := hM.1
  have hb := hM.2.1
  refine lv_iload_n hx hb dX11_whose_7 rfl (lv_at hl 3 rfl) ?_
  refine x_gs hM hG hM.2.2.2.2.2.2.2.2.2.1 xsl_X11_125 dX11_whose_8 ?_
  refine lv_iconst (v := (4 : Int32)) hx hb dX11_whose_11 (by decide) ?_
  refine x_tald hM hG hM.2.2.2.2.2.2.2.2.2.1 h dX11_whose_12 (fun v_1 h => ?_)
  refine x_icmp_gt (tgt := 43) hM h dX11_whose_13 (by decide) (fun c_2 h => ?_) (fun c_2 h => ?_)
  · refine lv_iload_n hx hb dX11_whose_43 rfl (lv_at hl 2 rfl) ?_
    exact x_ri hM hG hr hlk rfl (k0 _ (Option.some.inj h).symm) dX11_whose_44
  · refine lv_aload_n hx hb dX11_whose_16 rfl (lv_at hl 0 rfl) ?_
    refine x_gr (r := 16) hM hG xfl_X11_28 xct_0 (by decide) rfl dX11_whose_17 ?_
    refine lv_iload_n hx hb dX11_whose_20 rfl (lv_at hl 3 rfl) ?_
    refine x_cVi (As := [.int x3]) (rest := []) hM hG xml_X11_236 xwi_X4_goneOf xws_X4_goneOf xih_hay.1 (by decide) rfl h (fun S' v e => c_X4_goneOf hM.2.2.2.2.2.2.1 xih_hay e _) ⟨Nat.le_of_ble_eq_true rfl, Nat.le_of_ble_eq_true rfl⟩ rfl hl.1 rfl (Nat.le_of_ble_eq_true rfl) dX11_whose_21 (fun S_3 v_4 H locs h hG => ?_)
    refine lv_istore (lv' := [(4, .int v_4), (0, .ref (a 0)), (1, .int x1), (2, .int x2), (3, .int x3)]) hx hb dX11_whose_24 hl (by decide) rfl (fun ls hl => ?_)
    refine lv_iload hx hb dX11_whose_26 (lv_at hl 0 rfl) ?_
    refine lv_iload_n hx hb dX11_whose_28 rfl (lv_at hl 2 rfl) ?_
    refine x_icmp_le (tgt := 37) hM h dX11_whose_29 (by decide) (fun c_5 h => ?_) (fun c_5 h => ?_)
    · exact w_X11_whose_37 hM hr hlk h (fun t0 e => k0 t0 e) (fun S x1 x2 x3 e => k1 S x1 x2 x3 e) hG (lv_sub hl [1, 2, 3, 4] rfl)
    · refine lv_iload hx hb dX11_whose_32 (lv_at hl 0 rfl) ?_
      refine lv_istore_n (lv' := [(1, .int v_4), (4, .int v_4), (0, .ref (a 0)), (2, .int x2), (3, .int x3)]) hx hb dX11_whose_34 rfl hl (by decide) rfl (fun ls hl => ?_)
      refine lv_iload_n hx hb dX11_whose_35 rfl (lv_at hl 4 rfl) ?_
      refine lv_istore_n (lv' := [(2, .int x3), (1, .int v_4), (4, .int v_4), (0, .ref (a 0)), (3, .int x3)]) hx hb dX11_whose_36 rfl hl (by decide) rfl (fun ls hl => ?_)
      exact w_X11_whose_37 hM hr hlk h (fun t0 e => k0 t0 e) (fun S x1 x2 x3 e => k1 S x1 x2 x3 e) hG (lv_sub hl [3, 1, 0, 4] rfl)
theorem wl_X11_whose_7 (hM : xM p c cX11_whose m s args RX11 5 D cy xtb a z) (hr : meth.sig.returnType = (some .int)) (hlk : meth.locks = false) {S' : xSt} {v' : Int32} {q : (xSt × Int32)} (k0 : ∀ t0 : xSt × Int32, q = t0 → t0 = (S', v')) (n : Nat) : ∀ (S : xSt) (x1 : Int32) (x2 : Int32) (x3 : Int32) (H : Heap) (locs : List Loc) (ls : Array Slot), xlp (fun q : (xSt × Int32 × Int32 × Int32) => f_X11_whose_7 q.1 q.2.1 q.2.2.1 q.2.2.2) n (S, x1, x2, x3) = some q → xG D cy xtb a S s H locs → lv_has ls 5 [(0, .ref (a 0)), (1, .int x1), (2, .int x2), (3, .int x3)] → W p l e ({ frames := 2, cells := 0, slots := 0, locals := 44 } : Room) s m args below meth c H locs 0 0 (MQ below (xQi D cy xtb a S' v' s.heap.size) args s 0 0 (xA xtb a s.heap.size)) (F0 m 7 ls []) := by
  induction n with
  | zero => intro S x1 x2 x3 H locs ls h; exact (xlp_0 h).elim
  | succ n ih =>
    intro S x1 x2 x3 H locs ls h hG hl
    obtain ⟨q1, hq, hc, he⟩ := xlp_at h
    exact w_X11_whose_7 hM hr hlk (q := q1) hq (fun t0 e => k0 t0 (he _ e).symm) (fun S x1 x2 x3 e H locs ls hG hl => ih S x1 x2 x3 H locs ls (hc _ e) hG hl) hG hl
set_option maxHeartbeats 4000000 in
set_option maxRecDepth 100000 in
theorem w_X11_whose_0 (hM : xM p c cX11_whose m s args RX11 5 D cy xtb a z) (hr : meth.sig.returnType = (some .int)) (hlk : meth.locks = false) {S' : xSt} {v' : Int32} {S : xSt} {q : (xSt × Int32)} (h : f_X11_whose_0 S = some q) (k0 : ∀ t0 : xSt × Int32, q = t0 → t0 = (S', v')) {H : Heap} {locs : List Loc} (hG : xG D cy xtb a S s H locs) {ls : Array Slot} (hl : lv_has ls 5 [(0, .ref (a 0))]) : W p l e ({ frames := 2, cells := 0, slots := 0, locals := 44 } : Room) s m args below meth c H locs 0 0 (MQ below (xQi D cy xtb a S' v' s.heap.size) args s 0 0 (xA xtb a s.heap.size)) (F0 m 0 ls []) := by
  have hx := hM.1
  have hb := hM.2.1
  refine lv_iconst (v := (0 : Int32)) hx hb dX11_whose_0 (by decide) ?_
  refine lv_istore_n (lv' := [(1, .int (0 : Int32)), (0, .ref (a 0))]) hx hb dX11_whose_1 rfl hl (by decide) rfl (fun ls hl => ?_)
  refine lv_bipush (v := (-2 : Int32)) hx hb dX11_whose_2 (by decide) ?_
  refine lv_istore_n (lv' := [(2, .int (-2 : Int32)), (1, .int (0 : Int32)), (0, .ref (a 0))]) hx hb dX11_whose_4 rfl hl (by decide) rfl (fun ls hl => ?_)
  refine lv_iconst (v := (0 : Int32)) hx hb dX11_whose_5 (by decide) ?_
  refine lv_istore_n (lv' := [(3, .int (0 : Int32)), (2, .int (-2 : Int32)), (1, .int (0 : Int32)), (0, .ref (a 0))]) hx hb dX11_whose_6 rfl hl (by decide) rfl (fun ls hl => ?_)
  exact wl_X11_whose_7 hM hr hlk (fun t0 e => k0 t0 e) 5000 _ _ _ _ _ _ _ h hG (lv_sub hl [3, 2, 1, 0] rfl)
set_option maxHeartbeats 4000000 in
set_option maxRecDepth 100000 in
theorem c_X11_whose {l : Launch} {D : va_G} {cy : Nat → ClassId} {a z : Nat → Nat} (hI : xI xtb a) {S : xSt} {S' : xSt} {v' : Int32} (hf : f_X11_whose S = some (S', v')) (sz : Nat) : Met l yX11_whose (Cond.code yX11_whose cX11_whose 5 (some .int) :: xTB) ({ frames := 2, cells := 0, slots := 0, locals := 44 } : Room) (va_Pc [.ref (a 0)] (xPre D cy xtb a z S sz)) (xQi D cy xtb a S' v' sz) 0 0 (xA xtb a sz) := by
  refine Met.ofW (cc := cX11_whose) (maxL := 5) (ret := (some .int)) (by decide) rfl ?_
  intro p e s m args below meth c s₁ B hml hv
  obtain ⟨rfl, hsz, hP, hK, hE⟩ := hv
  subst hsz
  have hl := lv_entry ([.ref (a 0)]) (n := 5) (Nat.le_of_ble_eq_true rfl)
  rw [lg_entry_eq]
  generalize (lg_sl ([.ref (a 0)]) ++ List.replicate (5 - (lg_sl ([.ref (a 0)])).length) Slot.unset).toArray = ls at hl ⊢
  have hl : lv_has ls 5 [(0, .ref (a 0))] := hl
  exact w_X11_whose_0 ⟨B.exec, B.bytes, hml, findClass_of_methodNamed B.named, fun w hw => atoms_spec (ws := Cond.code yX11_whose cX11_whose 5 (some .int) :: xTB) B.pre w (List.mem_cons_of_mem _ hw), hK, hI, hE⟩ B.returns B.notSynchronized hf (fun t0 e => e.symm) ⟨hP, va_S.rf⟩ (lv_sub hl [0] rfl)
set_option maxHeartbeats 4000000 in
set_option maxRecDepth 100000 in
theorem w_X11_judge_0 {x1 : Int32} {x2 : Int32} (hM : xM p c cX11_judge m s args RX11 4 D cy xtb a z) (hr : meth.sig.returnType = (some .int)) (hlk : meth.locks = false) {S' : xSt} {v' : Int32} {S : xSt} {q : (xSt × Int32)} (h : f_X11_judge_0 x1 x2 S = some q) (k0 : ∀ t0 : xSt × Int32, q = t0 → t0 = (S', v')) {H : Heap} {locs : List Loc} (hG : xG D cy xtb a S s H locs) {ls : Array Slot} (hl : lv_has ls 4 [(0, .ref (a 0)), (1, .int x1), (2, .int x2)]) : W p l e ({ frames := 6, cells := 0, slots := 0, locals := 149 } : Room) s m args below meth c H locs 0 0 (MQ below (xQi D cy xtb a S' v' s.heap.size) args s 0 0 (xA xtb a s.heap.size)) (F0 m 0 ls []) := by
  have hx := hM.1
  have hb := hM.2.1
  refine lv_iload_n hx hb dX11_judge_0 rfl (lv_at hl 1 rfl) ?_
  refine x_cSi (As := [.int x1]) (rest := []) hM hG xml_X11_105 xwt_X11_isShelf h (fun S' v e => c_X11_isShelf hM.2.2.2.2.2.2.1 e _) ⟨Nat.le_of_ble_eq_true rfl, Nat.le_of_ble_eq_true rfl⟩ rfl hl.1 rfl (Nat.le_of_ble_eq_true rfl) dX11_judge_1 (fun S_1 v_2 H locs h hG => ?_)
  refine x_if_eq (tgt := 18) hM h dX11_judge_4 (by decide) (fun c_3 h => ?_) (fun c_3 h => ?_)
  · refine lv_iconst (v := (-1 : Int32)) hx hb dX11_judge_18 (by decide) ?_
    exact x_ri hM hG hr hlk rfl (k0 _ (Option.some.inj h).symm) dX11_judge_19
  · refine lv_aload_n hx hb dX11_judge_7 rfl (lv_at hl 0 rfl) ?_
    refine x_gr (r := 16) hM hG xfl_X11_28 xct_0 (by decide) rfl dX11_judge_8 ?_
    refine lv_iload_n hx hb dX11_judge_11 rfl (lv_at hl 2 rfl) ?_
    refine x_cVi (As := [.int x2]) (rest := []) hM hG xml_X11_156 xwi_X4_has xws_X4_has xih_hay.1 (by decide) rfl h (fun S' v e => c_X4_has hM.2.2.2.2.2.2.1 xih_hay e _) ⟨Nat.le_of_ble_eq_true rfl, Nat.le_of_ble_eq_true rfl⟩ rfl hl.1 rfl (Nat.le_of_ble_eq_true rfl) dX11_judge_12 (fun S_4 v_5 H locs h hG => ?_)
    refine x_if_ne (tgt := 20) hM h dX11_judge_15 (by decide) (fun c_6 h => ?_) (fun c_6 h => ?_)
    · refine lv_aload_n hx hb dX11_judge_20 rfl (lv_at hl 0 rfl) ?_
      refine x_gr (r := 1) hM hG xfl_X11_92 xct_0 (by decide) rfl dX11_judge_21 ?_
      refine lv_iload_n hx hb dX11_judge_24 rfl (lv_at hl 1 rfl) ?_
      refine x_aald5 hM hG xct_1 h dX11_judge_25 (fun hi_7 h => ?_)
      refine x_cVi (As := []) (rest := []) hM hG xml_X11_109 xwi_X8_refusalOfBytes xws_X8_refusalOfBytes (xih_shelf hi_7).1 (by decide) rfl h (fun S' v e => c_X8_refusalOfBytes hM.2.2.2.2.2.2.1 (xih_shelf hi_7) e _) ⟨Nat.le_of_ble_eq_true rfl, Nat.le_of_ble_eq_true rfl⟩ rfl hl.1 rfl (Nat.le_of_ble_eq_true rfl) dX11_judge_26 (fun S_8 v_9 H locs h hG => ?_)
      refine lv_istore_n (lv' := [(3, .int v_9), (0, .ref (a 0)), (1, .int x1), (2, .int x2)]) hx hb dX11_judge_29 rfl hl (by decide) rfl (fun ls hl => ?_)
      refine lv_iload_n hx hb dX11_judge_30 rfl (lv_at hl 0 rfl) ?_
      refine x_if_eq (tgt := 38) hM h dX11_judge_31 (by decide) (fun c_10 h => ?_) (fun c_10 h => ?_)
      · refine lv_aload_n hx hb dX11_judge_38 rfl (lv_at hl 1 rfl) ?_
        refine x_gr (r := 95) hM hG xfl_X11_72 xct_0 (by decide) rfl dX11_judge_39 ?_
        refine lv_aload_n hx hb dX11_judge_42 rfl (lv_at hl 1 rfl) ?_
        refine x_gr (r := 1) hM hG xfl_X11_92 xct_0 (by decide) rfl dX11_judge_43 ?_
        refine lv_iload_n hx hb dX11_judge_46 rfl (lv_at hl 2 rfl) ?_
        refine x_aald5 hM hG xct_1 h dX11_judge_47 (fun hi_11 h => ?_)
        refine lv_iload_n hx hb dX11_judge_48 rfl (lv_at hl 3 rfl) ?_
        refine x_cVi (As := [.ref (a (104 + 2 * x1.toNatClampNeg)), .int x2]) (rest := []) hM hG xml_X11_239 xwi_X1_judged xws_X1_judged xct_95 (by decide) rfl h (fun S' v e => c_X1_judged hM.2.2.2.2.2.2.1 (xih_shelf hi_11) e _) ⟨Nat.le_of_ble_eq_true rfl, Nat.le_of_ble_eq_true rfl⟩ rfl hl.1 rfl (Nat.le_of_ble_eq_true rfl) dX11_judge_49 (fun S_12 v_13 H locs h hG => ?_)
        exact x_ri hM hG hr hlk rfl (k0 _ (Option.some.inj h).symm) dX11_judge_52
      · refine lv_iload_n hx hb dX11_judge_34 rfl (lv_at hl 0 rfl) ?_
        refine lv_goto (tgt := 52) hx hb dX11_judge_35 (by decide) ?_
        exact x_ri hM hG hr hlk rfl (k0 _ (Option.some.inj h).symm) dX11_judge_52
    · refine lv_iconst (v := (-1 : Int32)) hx hb dX11_judge_18 (by decide) ?_
      exact x_ri hM hG hr hlk rfl (k0 _ (Option.some.inj h).symm) dX11_judge_19
set_option maxHeartbeats 4000000 in
set_option maxRecDepth 100000 in
theorem c_X11_judge {l : Launch} {D : va_G} {cy : Nat → ClassId} {a z : Nat → Nat} (hI : xI xtb a) {S : xSt} {x1 : Int32} {x2 : Int32} {S' : xSt} {v' : Int32} (hf : f_X11_judge S x1 x2 = some (S', v')) (sz : Nat) : Met l yX11_judge (Cond.code yX11_judge cX11_judge 4 (some .int) :: xTB) ({ frames := 6, cells := 0, slots := 0, locals := 149 } : Room) (va_Pc [.ref (a 0), .int x1, .int x2] (xPre D cy xtb a z S sz)) (xQi D cy xtb a S' v' sz) 0 0 (xA xtb a sz) := by
  refine Met.ofW (cc := cX11_judge) (maxL := 4) (ret := (some .int)) (by decide) rfl ?_
  intro p e s m args below meth c s₁ B hml hv
  obtain ⟨rfl, hsz, hP, hK, hE⟩ := hv
  subst hsz
  have hl := lv_entry ([.ref (a 0), .int x1, .int x2]) (n := 4) (Nat.le_of_ble_eq_true rfl)
  rw [lg_entry_eq]
  generalize (lg_sl ([.ref (a 0), .int x1, .int x2]) ++ List.replicate (4 - (lg_sl ([.ref (a 0), .int x1, .int x2])).length) Slot.unset).toArray = ls at hl ⊢
  have hl : lv_has ls 4 [(0, .ref (a 0)), (1, .int x1), (2, .int x2)] := hl
  exact w_X11_judge_0 ⟨B.exec, B.bytes, hml, findClass_of_methodNamed B.named, fun w hw => atoms_spec (ws := Cond.code yX11_judge cX11_judge 4 (some .int) :: xTB) B.pre w (List.mem_cons_of_mem _ hw), hK, hI, hE⟩ B.returns B.notSynchronized hf (fun t0 e => e.symm) ⟨hP, va_S.rf⟩ (lv_sub hl [0, 1, 2] rfl)
set_option maxHeartbeats 4000000 in
set_option maxRecDepth 100000 in
theorem w_X11_book_90 {x3 : Int32} {y1 : Nat} (hy1 : xIs_X8 y1) {y2 : Int32} {y3 : Int32} (hM : xM p c cX11_book m s args RX11 6 D cy xtb a z) (hr : meth.sig.returnType = (some .int)) (hlk : meth.locks = false) {S' : xSt} {v' : Int32} {S : xSt} {q : (xSt × Int32)} (h : f_X11_book_90 x3 y1 y2 y3 S = some q) (k0 : ∀ t0 : xSt × Int32, q = t0 → t0 = (S', v')) {H : Heap} {locs : List Loc} (hG : xG D cy xtb a S s H locs) {ls : Array Slot} (hl : lv_has ls 6 [(3, .int x3)]) : W p l e ({ frames := 6, cells := 0, slots := 0, locals := 152 } : Room) s m args below meth c H locs 0 0 (MQ below (xQi D cy xtb a S' v' s.heap.size) args s 0 0 (xA xtb a s.heap.size)) (F0 m 90 ls [.int y3, .int y2, .ref (a y1), .ref (a 95)]) := by
  have hx := hM.1
  have hb := hM.2.1
  refine x_cVi (As := [.ref (a y1), .int y2, .int y3]) (rest := []) hM hG xml_X11_243 xwi_X1_fitting xws_X1_fitting xct_95 (by decide) rfl h (fun S' v e => c_X1_fitting hM.2.2.2.2.2.2.1 hy1 e _) ⟨Nat.le_of_ble_eq_true rfl, Nat.le_of_ble_eq_true rfl⟩ rfl hl.1 rfl (Nat.le_of_ble_eq_true rfl) dX11_book_90 (fun S_1 v_2 H locs h hG => ?_)
  refine lv_istore (lv' := [(5, .int v_2), (3, .int x3)]) hx hb dX11_book_93 hl (by decide) rfl (fun ls hl => ?_)
  refine lv_iload_n hx hb dX11_book_95 rfl (lv_at hl 1 rfl) ?_
  by_cases c_3 : x3 = (0 : Int32)
  · have h := (if_pos c_3).symm.trans h
    refine lv_lookup (off := 28) (tgt := 124) hx hb dX11_book_96 (by decide) (by rw [c_3]; rfl) (by decide) ?_
    refine lv_iload hx hb dX11_book_124 (lv_at hl 0 rfl) ?_
    refine x_cSi (As := [.int v_2]) (rest := []) hM hG xml_X11_246 xwt_J6_bitCount_0f7a4 h (fun S' v e => c_J6_bitCount_0f7a4 hM.2.2.2.2.2.2.1 e _) ⟨Nat.le_of_ble_eq_true rfl, Nat.le_of_ble_eq_true rfl⟩ rfl hl.1 rfl (Nat.le_of_ble_eq_true rfl) dX11_book_126 (fun S_4 v_5 H locs h hG => ?_)
    exact x_ri hM hG hr hlk rfl (k0 _ (Option.some.inj h).symm) dX11_book_129
  · have h := (if_neg c_3).symm.trans h
    by_cases c_6 : x3 = (1 : Int32)
    · have h := (if_pos c_6).symm.trans h
      refine lv_lookup (off := 34) (tgt := 130) hx hb dX11_book_96 (by decide) (by rw [c_6]; rfl) (by decide) ?_
      refine lv_iload hx hb dX11_book_130 (lv_at hl 0 rfl) ?_
      refine x_cSi (As := [.int v_2]) (rest := []) hM hG xml_X11_251 xwt_X11_lowestBit h (fun S' v e => c_X11_lowestBit hM.2.2.2.2.2.2.1 e _) ⟨Nat.le_of_ble_eq_true rfl, Nat.le_of_ble_eq_true rfl⟩ rfl hl.1 rfl (Nat.le_of_ble_eq_true rfl) dX11_book_132 (fun S_7 v_8 H locs h hG => ?_)
      exact x_ri hM hG hr hlk rfl (k0 _ (Option.some.inj h).symm) dX11_book_135
    · have h := (if_neg c_6).symm.trans h
      refine lv_lookup (off := 40) (tgt := 136) hx hb dX11_book_96 (by decide) (by refine (lv_osw c_3 (by decide)).trans ?_; refine (lv_osw c_6 (by decide)).trans ?_; rfl) (by decide) ?_
      refine lv_iload hx hb dX11_book_136 (lv_at hl 0 rfl) ?_
      exact x_ri hM hG hr hlk rfl (k0 _ (Option.some.inj h).symm) dX11_book_138
set_option maxHeartbeats 4000000 in
set_option maxRecDepth 100000 in
theorem w_X11_book_0 {x1 : Int32} {x2 : Int32} {x3 : Int32} (hM : xM p c cX11_book m s args RX11 6 D cy xtb a z) (hr : meth.sig.returnType = (some .int)) (hlk : meth.locks = false) {S' : xSt} {v' : Int32} {S : xSt} {q : (xSt × Int32)} (h : f_X11_book_0 x1 x2 x3 S = some q) (k0 : ∀ t0 : xSt × Int32, q = t0 → t0 = (S', v')) {H : Heap} {locs : List Loc} (hG : xG D cy xtb a S s H locs) {ls : Array Slot} (hl : lv_has ls 6 [(0, .ref (a 0)), (1, .int x1), (2, .int x2), (3, .int x3)]) : W p l e ({ frames := 6, cells := 0, slots := 0, locals := 152 } : Room) s m args below meth c H locs 0 0 (MQ below (xQi D cy xtb a S' v' s.heap.size) args s 0 0 (xA xtb a s.heap.size)) (F0 m 0 ls []) := by
  have hx := hM.1
  have hb := hM.2.1
  refine lv_iload_n hx hb dX11_book_0 rfl (lv_at hl 1 rfl) ?_
  refine x_cSi (As := [.int x1]) (rest := []) hM hG xml_X11_105 xwt_X11_isShelf h (fun S' v e => c_X11_isShelf hM.2.2.2.2.2.2.1 e _) ⟨Nat.le_of_ble_eq_true rfl, Nat.le_of_ble_eq_true rfl⟩ rfl hl.1 rfl (Nat.le_of_ble_eq_true rfl) dX11_book_1 (fun S_1 v_2 H locs h hG => ?_)
  refine x_if_eq (tgt := 48) hM h dX11_book_4 (by decide) (fun c_3 h => ?_) (fun c_3 h => ?_)
  · refine lv_iconst (v := (-1 : Int32)) hx hb dX11_book_48 (by decide) ?_
    exact x_ri hM hG hr hlk rfl (k0 _ (Option.some.inj h).symm) dX11_book_49
  · refine lv_iload_n hx hb dX11_book_7 rfl (lv_at hl 2 rfl) ?_
    refine x_if_lt (tgt := 48) hM h dX11_book_8 (by decide) (fun c_4 h => ?_) (fun c_4 h => ?_)
    · refine lv_iconst (v := (-1 : Int32)) hx hb dX11_book_48 (by decide) ?_
      exact x_ri hM hG hr hlk rfl (k0 _ (Option.some.inj h).symm) dX11_book_49
    · refine lv_aload_n hx hb dX11_book_11 rfl (lv_at hl 0 rfl) ?_
      refine x_gr (r := 16) hM hG xfl_X11_28 xct_0 (by decide) rfl dX11_book_12 ?_
      refine lv_iload_n hx hb dX11_book_15 rfl (lv_at hl 2 rfl) ?_
      refine lv_bipush (v := (100 : Int32)) hx hb dX11_book_16 (by decide) ?_
      refine x_idiv hM h dX11_book_18 (fun v_5 h => ?_)
      refine x_cVi (As := [.int v_5]) (rest := []) hM hG xml_X11_156 xwi_X4_has xws_X4_has xih_hay.1 (by decide) rfl h (fun S' v e => c_X4_has hM.2.2.2.2.2.2.1 xih_hay e _) ⟨Nat.le_of_ble_eq_true rfl, Nat.le_of_ble_eq_true rfl⟩ rfl hl.1 rfl (Nat.le_of_ble_eq_true rfl) dX11_book_19 (fun S_6 v_7 H locs h hG => ?_)
      refine x_if_eq (tgt := 48) hM h dX11_book_22 (by decide) (fun c_8 h => ?_) (fun c_8 h => ?_)
      · refine lv_iconst (v := (-1 : Int32)) hx hb dX11_book_48 (by decide) ?_
        exact x_ri hM hG hr hlk rfl (k0 _ (Option.some.inj h).symm) dX11_book_49
      · refine lv_aload_n hx hb dX11_book_25 rfl (lv_at hl 0 rfl) ?_
        refine x_gr (r := 16) hM hG xfl_X11_28 xct_0 (by decide) rfl dX11_book_26 ?_
        refine lv_iload_n hx hb dX11_book_29 rfl (lv_at hl 2 rfl) ?_
        refine lv_bipush (v := (100 : Int32)) hx hb dX11_book_30 (by decide) ?_
        refine x_irem hM h dX11_book_32 (fun v_9 h => ?_)
        refine x_cVi (As := [.int v_9]) (rest := []) hM hG xml_X11_156 xwi_X4_has xws_X4_has xih_hay.1 (by decide) rfl h (fun S' v e => c_X4_has hM.2.2.2.2.2.2.1 xih_hay e _) ⟨Nat.le_of_ble_eq_true rfl, Nat.le_of_ble_eq_true rfl⟩ rfl hl.1 rfl (Nat.le_of_ble_eq_true rfl) dX11_book_33 (fun S_10 v_11 H locs h hG => ?_)
        refine x_if_eq (tgt := 48) hM h dX11_book_36 (by decide) (fun c_12 h => ?_) (fun c_12 h => ?_)
        · refine lv_iconst (v := (-1 : Int32)) hx hb dX11_book_48 (by decide) ?_
          exact x_ri hM hG hr hlk rfl (k0 _ (Option.some.inj h).symm) dX11_book_49
        · refine lv_iload_n hx hb dX11_book_39 rfl (lv_at hl 3 rfl) ?_
          refine lv_iconst (v := (0 : Int32)) hx hb dX11_book_40 (by decide) ?_
          refine lv_iconst (v := (2 : Int32)) hx hb dX11_book_41 (by decide) ?_
          refine x_cSi (As := [.int x3, .int (0 : Int32), .int (2 : Int32)]) (rest := []) hM hG xml_X11_97 xwt_X11_within h (fun S' v e => c_X11_within hM.2.2.2.2.2.2.1 e _) ⟨Nat.le_of_ble_eq_true rfl, Nat.le_of_ble_eq_true rfl⟩ rfl hl.1 rfl (Nat.le_of_ble_eq_true rfl) dX11_book_42 (fun S_13 v_14 H locs h hG => ?_)
          refine x_if_ne (tgt := 50) hM h dX11_book_45 (by decide) (fun c_15 h => ?_) (fun c_15 h => ?_)
          · refine lv_aload_n hx hb dX11_book_50 rfl (lv_at hl 0 rfl) ?_
            refine x_gr (r := 1) hM hG xfl_X11_92 xct_0 (by decide) rfl dX11_book_51 ?_
            refine lv_iload_n hx hb dX11_book_54 rfl (lv_at hl 1 rfl) ?_
            refine x_aald5 hM hG xct_1 h dX11_book_55 (fun hi_16 h => ?_)
            refine x_cVi (As := []) (rest := []) hM hG xml_X11_109 xwi_X8_refusalOfBytes xws_X8_refusalOfBytes (xih_shelf hi_16).1 (by decide) rfl h (fun S' v e => c_X8_refusalOfBytes hM.2.2.2.2.2.2.1 (xih_shelf hi_16) e _) ⟨Nat.le_of_ble_eq_true rfl, Nat.le_of_ble_eq_true rfl⟩ rfl hl.1 rfl (Nat.le_of_ble_eq_true rfl) dX11_book_56 (fun S_17 v_18 H locs h hG => ?_)
            refine lv_istore (lv' := [(4, .int v_18), (0, .ref (a 0)), (1, .int x1), (2, .int x2), (3, .int x3)]) hx hb dX11_book_59 hl (by decide) rfl (fun ls hl => ?_)
            refine lv_iload hx hb dX11_book_61 (lv_at hl 0 rfl) ?_
            refine x_if_eq (tgt := 69) hM h dX11_book_63 (by decide) (fun c_19 h => ?_) (fun c_19 h => ?_)
            · refine lv_aload_n hx hb dX11_book_69 rfl (lv_at hl 1 rfl) ?_
              refine x_gr (r := 95) hM hG xfl_X11_72 xct_0 (by decide) rfl dX11_book_70 ?_
              refine lv_aload_n hx hb dX11_book_73 rfl (lv_at hl 1 rfl) ?_
              refine x_gr (r := 1) hM hG xfl_X11_92 xct_0 (by decide) rfl dX11_book_74 ?_
              refine lv_iload_n hx hb dX11_book_77 rfl (lv_at hl 2 rfl) ?_
              refine x_aald5 hM hG xct_1 h dX11_book_78 (fun hi_20 h => ?_)
              refine lv_iload_n hx hb dX11_book_79 rfl (lv_at hl 3 rfl) ?_
              refine lv_iload_n hx hb dX11_book_80 rfl (lv_at hl 4 rfl) ?_
              refine lv_iconst (v := (2 : Int32)) hx hb dX11_book_81 (by decide) ?_
              refine x_icmp_ne (tgt := 89) hM h dX11_book_82 (by decide) (fun c_21 h => ?_) (fun c_21 h => ?_)
              · refine lv_iconst (v := (0 : Int32)) hx hb dX11_book_89 (by decide) ?_
                exact w_X11_book_90 (xih_shelf hi_20) hM hr hlk h (fun t0 e => k0 t0 e) hG (lv_sub hl [4] rfl)
              · refine lv_iconst (v := (3 : Int32)) hx hb dX11_book_85 (by decide) ?_
                refine lv_goto (tgt := 90) hx hb dX11_book_86 (by decide) ?_
                exact w_X11_book_90 (xih_shelf hi_20) hM hr hlk h (fun t0 e => k0 t0 e) hG (lv_sub hl [4] rfl)
            · refine lv_iload hx hb dX11_book_66 (lv_at hl 0 rfl) ?_
              exact x_ri hM hG hr hlk rfl (k0 _ (Option.some.inj h).symm) dX11_book_68
          · refine lv_iconst (v := (-1 : Int32)) hx hb dX11_book_48 (by decide) ?_
            exact x_ri hM hG hr hlk rfl (k0 _ (Option.some.inj h).symm) dX11_book_49
set_option maxHeartbeats 4000000 in
set_option maxRecDepth 100000 in
theorem c_X11_book {l : Launch} {D : va_G} {cy : Nat → ClassId} {a z : Nat → Nat} (hI : xI xtb a) {S : xSt} {x1 : Int32} {x2 : Int32} {x3 : Int32} {S' : xSt} {v' : Int32} (hf : f_X11_book S x1 x2 x3 = some (S', v')) (sz : Nat) : Met l yX11_book (Cond.code yX11_book cX11_book 6 (some .int) :: xTB) ({ frames := 6, cells := 0, slots := 0, locals := 152 } : Room) (va_Pc [.ref (a 0), .int x1, .int x2, .int x3] (xPre D cy xtb a z S sz)) (xQi D cy xtb a S' v' sz) 0 0 (xA xtb a sz) := by
  refine Met.ofW (cc := cX11_book) (maxL := 6) (ret := (some .int)) (by decide) rfl ?_
  intro p e s m args below meth c s₁ B hml hv
  obtain ⟨rfl, hsz, hP, hK, hE⟩ := hv
  subst hsz
  have hl := lv_entry ([.ref (a 0), .int x1, .int x2, .int x3]) (n := 6) (Nat.le_of_ble_eq_true rfl)
  rw [lg_entry_eq]
  generalize (lg_sl ([.ref (a 0), .int x1, .int x2, .int x3]) ++ List.replicate (6 - (lg_sl ([.ref (a 0), .int x1, .int x2, .int x3])).length) Slot.unset).toArray = ls at hl ⊢
  have hl : lv_has ls 6 [(0, .ref (a 0)), (1, .int x1), (2, .int x2), (3, .int x3)] := hl
  exact w_X11_book_0 ⟨B.exec, B.bytes, hml, findClass_of_methodNamed B.named, fun w hw => atoms_spec (ws := Cond.code yX11_book cX11_book 6 (some .int) :: xTB) B.pre w (List.mem_cons_of_mem _ hw), hK, hI, hE⟩ B.returns B.notSynchronized hf (fun t0 e => e.symm) ⟨hP, va_S.rf⟩ (lv_sub hl [0, 1, 2, 3] rfl)
set_option maxHeartbeats 4000000 in
set_option maxRecDepth 100000 in
theorem w_X11_byTurns_0 {x1 : Int32} {x2 : Int32} (hM : xM p c cX11_byTurns m s args RX11 3 D cy xtb a z) (hr : meth.sig.returnType = (some .int)) (hlk : meth.locks = false) {S' : xSt} {v' : Int32} {S : xSt} {q : (xSt × Int32)} (h : f_X11_byTurns_0 x1 x2 S = some q) (k0 : ∀ t0 : xSt × Int32, q = t0 → t0 = (S', v')) {H : Heap} {locs : List Loc} (hG : xG D cy xtb a S s H locs) {ls : Array Slot} (hl : lv_has ls 3 [(0, .ref (a 0)), (1, .int x1), (2, .int x2)]) : W p l e ({ frames := 12, cells := 0, slots := 0, locals := 326 } : Room) s m args below meth c H locs 0 0 (MQ below (xQi D cy xtb a S' v' s.heap.size) args s 0 0 (xA xtb a s.heap.size)) (F0 m 0 ls []) := by
  have hx := hM.1
  have hb := hM.2.1
  refine lv_iload_n hx hb dX11_byTurns_0 rfl (lv_at hl 1 rfl) ?_
  refine lv_bipush (v := (10 : Int32)) hx hb dX11_byTurns_1 (by decide) ?_
  refine lv_bipush (v := (39 : Int32)) hx hb dX11_byTurns_3 (by decide) ?_
  refine x_cSi (As := [.int x1, .int (10 : Int32), .int (39 : Int32)]) (rest := []) hM hG xml_X11_97 xwt_X11_within h (fun S' v e => c_X11_within hM.2.2.2.2.2.2.1 e _) ⟨Nat.le_of_ble_eq_true rfl, Nat.le_of_ble_eq_true rfl⟩ rfl hl.1 rfl (Nat.le_of_ble_eq_true rfl) dX11_byTurns_5 (fun S_1 v_2 H locs h hG => ?_)
  refine x_if_eq (tgt := 20) hM h dX11_byTurns_8 (by decide) (fun c_3 h => ?_) (fun c_3 h => ?_)
  · refine lv_iconst (v := (-1 : Int32)) hx hb dX11_byTurns_20 (by decide) ?_
    exact x_ri hM hG hr hlk rfl (k0 _ (Option.some.inj h).symm) dX11_byTurns_21
  · refine lv_iload_n hx hb dX11_byTurns_11 rfl (lv_at hl 2 rfl) ?_
    refine lv_iconst (v := (0 : Int32)) hx hb dX11_byTurns_12 (by decide) ?_
    refine lv_iconst (v := (1 : Int32)) hx hb dX11_byTurns_13 (by decide) ?_
    refine x_cSi (As := [.int x2, .int (0 : Int32), .int (1 : Int32)]) (rest := []) hM hG xml_X11_97 xwt_X11_within h (fun S' v e => c_X11_within hM.2.2.2.2.2.2.1 e _) ⟨Nat.le_of_ble_eq_true rfl, Nat.le_of_ble_eq_true rfl⟩ rfl hl.1 rfl (Nat.le_of_ble_eq_true rfl) dX11_byTurns_14 (fun S_4 v_5 H locs h hG => ?_)
    refine x_if_ne (tgt := 22) hM h dX11_byTurns_17 (by decide) (fun c_6 h => ?_) (fun c_6 h => ?_)
    · refine lv_aload_n hx hb dX11_byTurns_22 rfl (lv_at hl 0 rfl) ?_
      refine x_gr (r := 93) hM hG xfl_X11_65 xct_0 (by decide) rfl dX11_byTurns_23 ?_
      refine lv_iload_n hx hb dX11_byTurns_26 rfl (lv_at hl 1 rfl) ?_
      refine lv_bipush (v := (10 : Int32)) hx hb dX11_byTurns_27 (by decide) ?_
      refine x_idiv hM h dX11_byTurns_29 (fun v_7 h => ?_)
      refine lv_iload_n hx hb dX11_byTurns_30 rfl (lv_at hl 1 rfl) ?_
      refine lv_bipush (v := (10 : Int32)) hx hb dX11_byTurns_31 (by decide) ?_
      refine x_irem hM h dX11_byTurns_33 (fun v_8 h => ?_)
      refine x_cVv (As := [.int v_7, .int v_8]) (rest := []) hM hG xml_X11_254 xwi_X3_play xws_X3_play xct_93 (by decide) rfl h (fun S' v e => c_X3_play hM.2.2.2.2.2.2.1 e _) ⟨Nat.le_of_ble_eq_true rfl, Nat.le_of_ble_eq_true rfl⟩ rfl hl.1 rfl (Nat.le_of_ble_eq_true rfl) dX11_byTurns_34 (fun S_9 v_10 H locs h hG => ?_)
      refine lv_iload_n hx hb dX11_byTurns_37 rfl (lv_at hl 2 rfl) ?_
      refine x_if_ne (tgt := 51) hM h dX11_byTurns_38 (by decide) (fun c_11 h => ?_) (fun c_11 h => ?_)
      · refine lv_aload_n hx hb dX11_byTurns_51 rfl (lv_at hl 0 rfl) ?_
        refine x_gr (r := 93) hM hG xfl_X11_65 xct_0 (by decide) rfl dX11_byTurns_52 ?_
        refine x_gi hM hG xfl_X11_258 xct_93 (by decide) rfl h dX11_byTurns_55 (fun v_12 h => ?_)
        exact x_ri hM hG hr hlk rfl (k0 _ (Option.some.inj h).symm) dX11_byTurns_58
      · refine lv_aload_n hx hb dX11_byTurns_41 rfl (lv_at hl 0 rfl) ?_
        refine x_gr (r := 93) hM hG xfl_X11_65 xct_0 (by decide) rfl dX11_byTurns_42 ?_
        refine x_gi hM hG xfl_X11_257 xct_93 (by decide) rfl h dX11_byTurns_45 (fun v_13 h => ?_)
        refine lv_goto (tgt := 58) hx hb dX11_byTurns_48 (by decide) ?_
        exact x_ri hM hG hr hlk rfl (k0 _ (Option.some.inj h).symm) dX11_byTurns_58
    · refine lv_iconst (v := (-1 : Int32)) hx hb dX11_byTurns_20 (by decide) ?_
      exact x_ri hM hG hr hlk rfl (k0 _ (Option.some.inj h).symm) dX11_byTurns_21
set_option maxHeartbeats 4000000 in
set_option maxRecDepth 100000 in
theorem c_X11_byTurns {l : Launch} {D : va_G} {cy : Nat → ClassId} {a z : Nat → Nat} (hI : xI xtb a) {S : xSt} {x1 : Int32} {x2 : Int32} {S' : xSt} {v' : Int32} (hf : f_X11_byTurns S x1 x2 = some (S', v')) (sz : Nat) : Met l yX11_byTurns (Cond.code yX11_byTurns cX11_byTurns 3 (some .int) :: xTB) ({ frames := 12, cells := 0, slots := 0, locals := 326 } : Room) (va_Pc [.ref (a 0), .int x1, .int x2] (xPre D cy xtb a z S sz)) (xQi D cy xtb a S' v' sz) 0 0 (xA xtb a sz) := by
  refine Met.ofW (cc := cX11_byTurns) (maxL := 3) (ret := (some .int)) (by decide) rfl ?_
  intro p e s m args below meth c s₁ B hml hv
  obtain ⟨rfl, hsz, hP, hK, hE⟩ := hv
  subst hsz
  have hl := lv_entry ([.ref (a 0), .int x1, .int x2]) (n := 3) (Nat.le_of_ble_eq_true rfl)
  rw [lg_entry_eq]
  generalize (lg_sl ([.ref (a 0), .int x1, .int x2]) ++ List.replicate (3 - (lg_sl ([.ref (a 0), .int x1, .int x2])).length) Slot.unset).toArray = ls at hl ⊢
  have hl : lv_has ls 3 [(0, .ref (a 0)), (1, .int x1), (2, .int x2)] := hl
  exact w_X11_byTurns_0 ⟨B.exec, B.bytes, hml, findClass_of_methodNamed B.named, fun w hw => atoms_spec (ws := Cond.code yX11_byTurns cX11_byTurns 3 (some .int) :: xTB) B.pre w (List.mem_cons_of_mem _ hw), hK, hI, hE⟩ B.returns B.notSynchronized hf (fun t0 e => e.symm) ⟨hP, va_S.rf⟩ (lv_sub hl [0, 1, 2] rfl)
set_option maxHeartbeats 4000000 in
set_option maxRecDepth 100000 in
theorem w_X11_drawn_0 {x1 : Int32} {x2 : Int32} {x3 : Int32} (hM : xM p c cX11_drawn m s args RX11 7 D cy xtb a z) (hr : meth.sig.returnType = (some .int)) (hlk : meth.locks = false) {S' : xSt} {v' : Int32} {S : xSt} {q : (xSt × Int32)} (h : f_X11_drawn_0 x1 x2 x3 S = some q) (k0 : ∀ t0 : xSt × Int32, q = t0 → t0 = (S', v')) {H : Heap} {locs : List Loc} (hG : xG D cy xtb a S s H locs) {ls : Array Slot} (hl : lv_has ls 7 [(0, .ref (a 0)), (1, .int x1), (2, .int x2), (3, .int x3)]) : W p l e ({ frames := 5, cells := 0, slots := 0, locals := 129 } : Room) s m args below meth c H locs 0 0 (MQ below (xQi D cy xtb a S' v' s.heap.size) args s 0 0 (xA xtb a s.heap.size)) (F0 m 0 ls []) := by
  have hx := hM.1
  have hb := hM.2.1
  refine lv_iload_n hx hb dX11_drawn_0 rfl (lv_at hl 2 rfl) ?_
  refine lv_sipush (v := (10000 : Int32)) hx hb dX11_drawn_1 (by decide) ?_
  refine x_idiv hM h dX11_drawn_4 (fun v_1 h => ?_)
  refine lv_istore (lv' := [(4, .int v_1), (0, .ref (a 0)), (1, .int x1), (2, .int x2), (3, .int x3)]) hx hb dX11_drawn_5 hl (by decide) rfl (fun ls hl => ?_)
  refine lv_iload_n hx hb dX11_drawn_7 rfl (lv_at hl 3 rfl) ?_
  refine lv_bipush (v := (100 : Int32)) hx hb dX11_drawn_8 (by decide) ?_
  refine x_idiv hM h dX11_drawn_10 (fun v_2 h => ?_)
  refine lv_bipush (v := (100 : Int32)) hx hb dX11_drawn_11 (by decide) ?_
  refine x_irem hM h dX11_drawn_13 (fun v_3 h => ?_)
  refine lv_istore (lv' := [(5, .int v_3), (4, .int v_1), (0, .ref (a 0)), (1, .int x1), (2, .int x2), (3, .int x3)]) hx hb dX11_drawn_14 hl (by decide) rfl (fun ls hl => ?_)
  refine lv_iload_n hx hb dX11_drawn_16 rfl (lv_at hl 4 rfl) ?_
  refine lv_bipush (v := (100 : Int32)) hx hb dX11_drawn_17 (by decide) ?_
  refine x_irem hM h dX11_drawn_19 (fun v_4 h => ?_)
  refine lv_istore (lv' := [(6, .int v_4), (5, .int v_3), (4, .int v_1), (0, .ref (a 0)), (1, .int x1), (2, .int x2), (3, .int x3)]) hx hb dX11_drawn_20 hl (by decide) rfl (fun ls hl => ?_)
  refine lv_iload hx hb dX11_drawn_22 (lv_at hl 2 rfl) ?_
  refine lv_iconst (v := (1 : Int32)) hx hb dX11_drawn_24 (by decide) ?_
  refine lv_bipush (v := (30 : Int32)) hx hb dX11_drawn_25 (by decide) ?_
  refine x_cSi (As := [.int v_1, .int (1 : Int32), .int (30 : Int32)]) (rest := []) hM hG xml_X11_97 xwt_X11_within h (fun S' v e => c_X11_within hM.2.2.2.2.2.2.1 e _) ⟨Nat.le_of_ble_eq_true rfl, Nat.le_of_ble_eq_true rfl⟩ rfl hl.1 rfl (Nat.le_of_ble_eq_true rfl) dX11_drawn_27 (fun S_5 v_6 H locs h hG => ?_)
  refine x_if_eq (tgt := 64) hM h dX11_drawn_30 (by decide) (fun c_7 h => ?_) (fun c_7 h => ?_)
  · refine lv_iconst (v := (-1 : Int32)) hx hb dX11_drawn_64 (by decide) ?_
    exact x_ri hM hG hr hlk rfl (k0 _ (Option.some.inj h).symm) dX11_drawn_65
  · refine lv_iload hx hb dX11_drawn_33 (lv_at hl 1 rfl) ?_
    refine lv_iconst (v := (1 : Int32)) hx hb dX11_drawn_35 (by decide) ?_
    refine lv_bipush (v := (30 : Int32)) hx hb dX11_drawn_36 (by decide) ?_
    refine x_cSi (As := [.int v_3, .int (1 : Int32), .int (30 : Int32)]) (rest := []) hM hG xml_X11_97 xwt_X11_within h (fun S' v e => c_X11_within hM.2.2.2.2.2.2.1 e _) ⟨Nat.le_of_ble_eq_true rfl, Nat.le_of_ble_eq_true rfl⟩ rfl hl.1 rfl (Nat.le_of_ble_eq_true rfl) dX11_drawn_38 (fun S_8 v_9 H locs h hG => ?_)
    refine x_if_eq (tgt := 64) hM h dX11_drawn_41 (by decide) (fun c_10 h => ?_) (fun c_10 h => ?_)
    · refine lv_iconst (v := (-1 : Int32)) hx hb dX11_drawn_64 (by decide) ?_
      exact x_ri hM hG hr hlk rfl (k0 _ (Option.some.inj h).symm) dX11_drawn_65
    · refine lv_iload hx hb dX11_drawn_44 (lv_at hl 0 rfl) ?_
      refine lv_iconst (v := (0 : Int32)) hx hb dX11_drawn_46 (by decide) ?_
      refine lv_bipush (v := (12 : Int32)) hx hb dX11_drawn_47 (by decide) ?_
      refine x_cSi (As := [.int v_4, .int (0 : Int32), .int (12 : Int32)]) (rest := []) hM hG xml_X11_97 xwt_X11_within h (fun S' v e => c_X11_within hM.2.2.2.2.2.2.1 e _) ⟨Nat.le_of_ble_eq_true rfl, Nat.le_of_ble_eq_true rfl⟩ rfl hl.1 rfl (Nat.le_of_ble_eq_true rfl) dX11_drawn_49 (fun S_11 v_12 H locs h hG => ?_)
      refine x_if_eq (tgt := 64) hM h dX11_drawn_52 (by decide) (fun c_13 h => ?_) (fun c_13 h => ?_)
      · refine lv_iconst (v := (-1 : Int32)) hx hb dX11_drawn_64 (by decide) ?_
        exact x_ri hM hG hr hlk rfl (k0 _ (Option.some.inj h).symm) dX11_drawn_65
      · refine lv_iload_n hx hb dX11_drawn_55 rfl (lv_at hl 6 rfl) ?_
        refine lv_iconst (v := (0 : Int32)) hx hb dX11_drawn_56 (by decide) ?_
        refine lv_iconst (v := (1 : Int32)) hx hb dX11_drawn_57 (by decide) ?_
        refine x_cSi (As := [.int x3, .int (0 : Int32), .int (1 : Int32)]) (rest := []) hM hG xml_X11_97 xwt_X11_within h (fun S' v e => c_X11_within hM.2.2.2.2.2.2.1 e _) ⟨Nat.le_of_ble_eq_true rfl, Nat.le_of_ble_eq_true rfl⟩ rfl hl.1 rfl (Nat.le_of_ble_eq_true rfl) dX11_drawn_58 (fun S_14 v_15 H locs h hG => ?_)
        refine x_if_ne (tgt := 66) hM h dX11_drawn_61 (by decide) (fun c_16 h => ?_) (fun c_16 h => ?_)
        · refine lv_aload_n hx hb dX11_drawn_66 rfl (lv_at hl 3 rfl) ?_
          refine x_gr (r := 86) hM hG xfl_X11_40 xct_0 (by decide) rfl dX11_drawn_67 ?_
          refine lv_iload_n hx hb dX11_drawn_70 rfl (lv_at hl 4 rfl) ?_
          refine lv_iload hx hb dX11_drawn_71 (lv_at hl 2 rfl) ?_
          refine lv_iload hx hb dX11_drawn_73 (lv_at hl 1 rfl) ?_
          refine lv_iload hx hb dX11_drawn_75 (lv_at hl 0 rfl) ?_
          refine x_cVv (As := [.int x1, .int v_1, .int v_3, .int v_4]) (rest := []) hM hG xml_X11_261 xwi_X10_seekDrawn xws_X10_seekDrawn xct_86 (by decide) rfl h (fun S' v e => c_X10_seekDrawn hM.2.2.2.2.2.2.1 e _) ⟨Nat.le_of_ble_eq_true rfl, Nat.le_of_ble_eq_true rfl⟩ rfl hl.1 rfl (Nat.le_of_ble_eq_true rfl) dX11_drawn_77 (fun S_17 v_18 H locs h hG => ?_)
          refine lv_iload_n hx hb dX11_drawn_80 rfl (lv_at hl 6 rfl) ?_
          refine x_if_ne (tgt := 94) hM h dX11_drawn_81 (by decide) (fun c_19 h => ?_) (fun c_19 h => ?_)
          · refine lv_aload_n hx hb dX11_drawn_94 rfl (lv_at hl 3 rfl) ?_
            refine x_gr (r := 86) hM hG xfl_X11_40 xct_0 (by decide) rfl dX11_drawn_95 ?_
            refine x_gi hM hG xfl_X11_209 xct_86 (by decide) rfl h dX11_drawn_98 (fun v_20 h => ?_)
            exact x_ri hM hG hr hlk rfl (k0 _ (Option.some.inj h).symm) dX11_drawn_101
          · refine lv_aload_n hx hb dX11_drawn_84 rfl (lv_at hl 3 rfl) ?_
            refine x_gr (r := 86) hM hG xfl_X11_40 xct_0 (by decide) rfl dX11_drawn_85 ?_
            refine x_gi hM hG xfl_X11_212 xct_86 (by decide) rfl h dX11_drawn_88 (fun v_21 h => ?_)
            refine lv_goto (tgt := 101) hx hb dX11_drawn_91 (by decide) ?_
            exact x_ri hM hG hr hlk rfl (k0 _ (Option.some.inj h).symm) dX11_drawn_101
        · refine lv_iconst (v := (-1 : Int32)) hx hb dX11_drawn_64 (by decide) ?_
          exact x_ri hM hG hr hlk rfl (k0 _ (Option.some.inj h).symm) dX11_drawn_65
set_option maxHeartbeats 4000000 in
set_option maxRecDepth 100000 in
theorem c_X11_drawn {l : Launch} {D : va_G} {cy : Nat → ClassId} {a z : Nat → Nat} (hI : xI xtb a) {S : xSt} {x1 : Int32} {x2 : Int32} {x3 : Int32} {S' : xSt} {v' : Int32} (hf : f_X11_drawn S x1 x2 x3 = some (S', v')) (sz : Nat) : Met l yX11_drawn (Cond.code yX11_drawn cX11_drawn 7 (some .int) :: xTB) ({ frames := 5, cells := 0, slots := 0, locals := 129 } : Room) (va_Pc [.ref (a 0), .int x1, .int x2, .int x3] (xPre D cy xtb a z S sz)) (xQi D cy xtb a S' v' sz) 0 0 (xA xtb a sz) := by
  refine Met.ofW (cc := cX11_drawn) (maxL := 7) (ret := (some .int)) (by decide) rfl ?_
  intro p e s m args below meth c s₁ B hml hv
  obtain ⟨rfl, hsz, hP, hK, hE⟩ := hv
  subst hsz
  have hl := lv_entry ([.ref (a 0), .int x1, .int x2, .int x3]) (n := 7) (Nat.le_of_ble_eq_true rfl)
  rw [lg_entry_eq]
  generalize (lg_sl ([.ref (a 0), .int x1, .int x2, .int x3]) ++ List.replicate (7 - (lg_sl ([.ref (a 0), .int x1, .int x2, .int x3])).length) Slot.unset).toArray = ls at hl ⊢
  have hl : lv_has ls 7 [(0, .ref (a 0)), (1, .int x1), (2, .int x2), (3, .int x3)] := hl
  exact w_X11_drawn_0 ⟨B.exec, B.bytes, hml, findClass_of_methodNamed B.named, fun w hw => atoms_spec (ws := Cond.code yX11_drawn cX11_drawn 7 (some .int) :: xTB) B.pre w (List.mem_cons_of_mem _ hw), hK, hI, hE⟩ B.returns B.notSynchronized hf (fun t0 e => e.symm) ⟨hP, va_S.rf⟩ (lv_sub hl [0, 1, 2, 3] rfl)
set_option maxHeartbeats 4000000 in
set_option maxRecDepth 100000 in
theorem w_X11_turned_0 {x1 : Int32} (hM : xM p c cX11_turned m s args RX11 2 D cy xtb a z) (hr : meth.sig.returnType = (some .int)) (hlk : meth.locks = false) {S' : xSt} {v' : Int32} {S : xSt} {q : (xSt × Int32)} (h : f_X11_turned_0 x1 S = some q) (k0 : ∀ t0 : xSt × Int32, q = t0 → t0 = (S', v')) {H : Heap} {locs : List Loc} (hG : xG D cy xtb a S s H locs) {ls : Array Slot} (hl : lv_has ls 2 [(0, .ref (a 0)), (1, .int x1)]) : W p l e ({ frames := 2, cells := 0, slots := 0, locals := 49 } : Room) s m args below meth c H locs 0 0 (MQ below (xQi D cy xtb a S' v' s.heap.size) args s 0 0 (xA xtb a s.heap.size)) (F0 m 0 ls []) := by
  have hx := hM.1
  have hb := hM.2.1
  refine lv_iload_n hx hb dX11_turned_0 rfl (lv_at hl 1 rfl) ?_
  refine lv_iconst (v := (0 : Int32)) hx hb dX11_turned_1 (by decide) ?_
  refine lv_iconst (v := (5 : Int32)) hx hb dX11_turned_2 (by decide) ?_
  refine x_cSi (As := [.int x1, .int (0 : Int32), .int (5 : Int32)]) (rest := []) hM hG xml_X11_97 xwt_X11_within h (fun S' v e => c_X11_within hM.2.2.2.2.2.2.1 e _) ⟨Nat.le_of_ble_eq_true rfl, Nat.le_of_ble_eq_true rfl⟩ rfl hl.1 rfl (Nat.le_of_ble_eq_true rfl) dX11_turned_3 (fun S_1 v_2 H locs h hG => ?_)
  refine x_if_ne (tgt := 11) hM h dX11_turned_6 (by decide) (fun c_3 h => ?_) (fun c_3 h => ?_)
  · refine lv_aload_n hx hb dX11_turned_11 rfl (lv_at hl 0 rfl) ?_
    refine x_gr (r := 16) hM hG xfl_X11_28 xct_0 (by decide) rfl dX11_turned_12 ?_
    refine lv_iload_n hx hb dX11_turned_15 rfl (lv_at hl 1 rfl) ?_
    refine x_cVv (As := [.int x1]) (rest := []) hM hG xml_X11_264 xwi_X4_turnColumn xws_X4_turnColumn xih_hay.1 (by decide) rfl h (fun S' v e => c_X4_turnColumn hM.2.2.2.2.2.2.1 xih_hay e _) ⟨Nat.le_of_ble_eq_true rfl, Nat.le_of_ble_eq_true rfl⟩ rfl hl.1 rfl (Nat.le_of_ble_eq_true rfl) dX11_turned_16 (fun S_4 v_5 H locs h hG => ?_)
    refine lv_aload_n hx hb dX11_turned_19 rfl (lv_at hl 0 rfl) ?_
    refine x_gr (r := 16) hM hG xfl_X11_28 xct_0 (by decide) rfl dX11_turned_20 ?_
    refine x_gr (r := 16 + 8) hM hG xfl_X11_267 xih_hay.1 (by decide) rfl dX11_turned_23 ?_
    refine lv_iconst (v := (1 : Int32)) hx hb dX11_turned_26 (by decide) ?_
    refine lv_dup2_11 hx hb dX11_turned_27 rfl rfl ?_
    refine x_iald hM hG xih_hay.2.2.2.2.2.2.2.2.1 h dX11_turned_28 (fun v_6 h => ?_)
    refine lv_iconst (v := (1 : Int32)) hx hb dX11_turned_29 (by decide) ?_
    refine x_iadd hM h dX11_turned_30 (fun v_7 h => ?_)
    refine x_iast hM hG xih_hay.2.2.2.2.2.2.2.2.1 h dX11_turned_31 (fun S_8 H locs h hG => ?_)
    refine lv_aload_n hx hb dX11_turned_32 rfl (lv_at hl 0 rfl) ?_
    refine x_gr (r := 16) hM hG xfl_X11_28 xct_0 (by decide) rfl dX11_turned_33 ?_
    refine x_gr (r := 16 + 1) hM hG xfl_X11_140 xih_hay.1 (by decide) rfl dX11_turned_36 ?_
    refine lv_iload_n hx hb dX11_turned_39 rfl (lv_at hl 1 rfl) ?_
    refine x_iald hM hG xih_hay.2.1 h dX11_turned_40 (fun v_9 h => ?_)
    exact x_ri hM hG hr hlk rfl (k0 _ (Option.some.inj h).symm) dX11_turned_41
  · refine lv_iconst (v := (-1 : Int32)) hx hb dX11_turned_9 (by decide) ?_
    exact x_ri hM hG hr hlk rfl (k0 _ (Option.some.inj h).symm) dX11_turned_10
set_option maxHeartbeats 4000000 in
set_option maxRecDepth 100000 in
theorem c_X11_turned {l : Launch} {D : va_G} {cy : Nat → ClassId} {a z : Nat → Nat} (hI : xI xtb a) {S : xSt} {x1 : Int32} {S' : xSt} {v' : Int32} (hf : f_X11_turned S x1 = some (S', v')) (sz : Nat) : Met l yX11_turned (Cond.code yX11_turned cX11_turned 2 (some .int) :: xTB) ({ frames := 2, cells := 0, slots := 0, locals := 49 } : Room) (va_Pc [.ref (a 0), .int x1] (xPre D cy xtb a z S sz)) (xQi D cy xtb a S' v' sz) 0 0 (xA xtb a sz) := by
  refine Met.ofW (cc := cX11_turned) (maxL := 2) (ret := (some .int)) (by decide) rfl ?_
  intro p e s m args below meth c s₁ B hml hv
  obtain ⟨rfl, hsz, hP, hK, hE⟩ := hv
  subst hsz
  have hl := lv_entry ([.ref (a 0), .int x1]) (n := 2) (Nat.le_of_ble_eq_true rfl)
  rw [lg_entry_eq]
  generalize (lg_sl ([.ref (a 0), .int x1]) ++ List.replicate (2 - (lg_sl ([.ref (a 0), .int x1])).length) Slot.unset).toArray = ls at hl ⊢
  have hl : lv_has ls 2 [(0, .ref (a 0)), (1, .int x1)] := hl
  exact w_X11_turned_0 ⟨B.exec, B.bytes, hml, findClass_of_methodNamed B.named, fun w hw => atoms_spec (ws := Cond.code yX11_turned cX11_turned 2 (some .int) :: xTB) B.pre w (List.mem_cons_of_mem _ hw), hK, hI, hE⟩ B.returns B.notSynchronized hf (fun t0 e => e.symm) ⟨hP, va_S.rf⟩ (lv_sub hl [0, 1] rfl)
set_option maxHeartbeats 4000000 in
set_option maxRecDepth 100000 in
theorem w_X11_salt_0 {x1 : Int32} (hM : xM p c cX11_salt m s args RX11 2 D cy xtb a z) (hr : meth.sig.returnType = (some .int)) (hlk : meth.locks = false) {S' : xSt} {v' : Int32} {S : xSt} {q : (xSt × Int32)} (h : f_X11_salt_0 x1 S = some q) (k0 : ∀ t0 : xSt × Int32, q = t0 → t0 = (S', v')) {H : Heap} {locs : List Loc} (hG : xG D cy xtb a S s H locs) {ls : Array Slot} (hl : lv_has ls 2 [(0, .ref (a 0)), (1, .int x1)]) : W p l e ({ frames := 1, cells := 0, slots := 0, locals := 22 } : Room) s m args below meth c H locs 0 0 (MQ below (xQi D cy xtb a S' v' s.heap.size) args s 0 0 (xA xtb a s.heap.size)) (F0 m 0 ls []) := by
  have hx := hM.1
  have hb := hM.2.1
  refine lv_iload_n hx hb dX11_salt_0 rfl (lv_at hl 1 rfl) ?_
  refine lv_iconst (v := (0 : Int32)) hx hb dX11_salt_1 (by decide) ?_
  refine lv_iconst (v := (5 : Int32)) hx hb dX11_salt_2 (by decide) ?_
  refine x_cSi (As := [.int x1, .int (0 : Int32), .int (5 : Int32)]) (rest := []) hM hG xml_X11_97 xwt_X11_within h (fun S' v e => c_X11_within hM.2.2.2.2.2.2.1 e _) ⟨Nat.le_of_ble_eq_true rfl, Nat.le_of_ble_eq_true rfl⟩ rfl hl.1 rfl (Nat.le_of_ble_eq_true rfl) dX11_salt_3 (fun S_1 v_2 H locs h hG => ?_)
  refine x_if_ne (tgt := 11) hM h dX11_salt_6 (by decide) (fun c_3 h => ?_) (fun c_3 h => ?_)
  · refine lv_aload_n hx hb dX11_salt_11 rfl (lv_at hl 0 rfl) ?_
    refine x_gr (r := 16) hM hG xfl_X11_28 xct_0 (by decide) rfl dX11_salt_12 ?_
    refine lv_iload_n hx hb dX11_salt_15 rfl (lv_at hl 1 rfl) ?_
    refine x_cVv (As := [.int x1]) (rest := []) hM hG xml_X11_270 xwi_X4_saltColumn xws_X4_saltColumn xih_hay.1 (by decide) rfl h (fun S' v e => c_X4_saltColumn hM.2.2.2.2.2.2.1 xih_hay e _) ⟨Nat.le_of_ble_eq_true rfl, Nat.le_of_ble_eq_true rfl⟩ rfl hl.1 rfl (Nat.le_of_ble_eq_true rfl) dX11_salt_16 (fun S_4 v_5 H locs h hG => ?_)
    refine lv_aload_n hx hb dX11_salt_19 rfl (lv_at hl 0 rfl) ?_
    refine x_gr (r := 16) hM hG xfl_X11_28 xct_0 (by decide) rfl dX11_salt_20 ?_
    refine x_gr (r := 16 + 8) hM hG xfl_X11_267 xih_hay.1 (by decide) rfl dX11_salt_23 ?_
    refine lv_iconst (v := (2 : Int32)) hx hb dX11_salt_26 (by decide) ?_
    refine lv_dup2_11 hx hb dX11_salt_27 rfl rfl ?_
    refine x_iald hM hG xih_hay.2.2.2.2.2.2.2.2.1 h dX11_salt_28 (fun v_6 h => ?_)
    refine lv_iconst (v := (1 : Int32)) hx hb dX11_salt_29 (by decide) ?_
    refine x_iadd hM h dX11_salt_30 (fun v_7 h => ?_)
    refine x_iast hM hG xih_hay.2.2.2.2.2.2.2.2.1 h dX11_salt_31 (fun S_8 H locs h hG => ?_)
    refine lv_aload_n hx hb dX11_salt_32 rfl (lv_at hl 0 rfl) ?_
    refine x_gr (r := 16) hM hG xfl_X11_28 xct_0 (by decide) rfl dX11_salt_33 ?_
    refine x_gr (r := 16 + 1) hM hG xfl_X11_140 xih_hay.1 (by decide) rfl dX11_salt_36 ?_
    refine lv_iload_n hx hb dX11_salt_39 rfl (lv_at hl 1 rfl) ?_
    refine x_iald hM hG xih_hay.2.1 h dX11_salt_40 (fun v_9 h => ?_)
    exact x_ri hM hG hr hlk rfl (k0 _ (Option.some.inj h).symm) dX11_salt_41
  · refine lv_iconst (v := (-1 : Int32)) hx hb dX11_salt_9 (by decide) ?_
    exact x_ri hM hG hr hlk rfl (k0 _ (Option.some.inj h).symm) dX11_salt_10
set_option maxHeartbeats 4000000 in
set_option maxRecDepth 100000 in
theorem c_X11_salt {l : Launch} {D : va_G} {cy : Nat → ClassId} {a z : Nat → Nat} (hI : xI xtb a) {S : xSt} {x1 : Int32} {S' : xSt} {v' : Int32} (hf : f_X11_salt S x1 = some (S', v')) (sz : Nat) : Met l yX11_salt (Cond.code yX11_salt cX11_salt 2 (some .int) :: xTB) ({ frames := 1, cells := 0, slots := 0, locals := 22 } : Room) (va_Pc [.ref (a 0), .int x1] (xPre D cy xtb a z S sz)) (xQi D cy xtb a S' v' sz) 0 0 (xA xtb a sz) := by
  refine Met.ofW (cc := cX11_salt) (maxL := 2) (ret := (some .int)) (by decide) rfl ?_
  intro p e s m args below meth c s₁ B hml hv
  obtain ⟨rfl, hsz, hP, hK, hE⟩ := hv
  subst hsz
  have hl := lv_entry ([.ref (a 0), .int x1]) (n := 2) (Nat.le_of_ble_eq_true rfl)
  rw [lg_entry_eq]
  generalize (lg_sl ([.ref (a 0), .int x1]) ++ List.replicate (2 - (lg_sl ([.ref (a 0), .int x1])).length) Slot.unset).toArray = ls at hl ⊢
  have hl : lv_has ls 2 [(0, .ref (a 0)), (1, .int x1)] := hl
  exact w_X11_salt_0 ⟨B.exec, B.bytes, hml, findClass_of_methodNamed B.named, fun w hw => atoms_spec (ws := Cond.code yX11_salt cX11_salt 2 (some .int) :: xTB) B.pre w (List.mem_cons_of_mem _ hw), hK, hI, hE⟩ B.returns B.notSynchronized hf (fun t0 e => e.symm) ⟨hP, va_S.rf⟩ (lv_sub hl [0, 1] rfl)
set_option maxHeartbeats 4000000 in
set_option maxRecDepth 100000 in
theorem w_X11_read_0 {x1 : Int32} (hM : xM p c cX11_read m s args RX11 3 D cy xtb a z) (hr : meth.sig.returnType = (some .int)) (hlk : meth.locks = false) {S' : xSt} {v' : Int32} {S : xSt} {q : (xSt × Int32)} (h : f_X11_read_0 x1 S = some q) (k0 : ∀ t0 : xSt × Int32, q = t0 → t0 = (S', v')) {H : Heap} {locs : List Loc} (hG : xG D cy xtb a S s H locs) {ls : Array Slot} (hl : lv_has ls 3 [(0, .ref (a 0)), (1, .int x1)]) : W p l e ({ frames := 1, cells := 0, slots := 0, locals := 26 } : Room) s m args below meth c H locs 0 0 (MQ below (xQi D cy xtb a S' v' s.heap.size) args s 0 0 (xA xtb a s.heap.size)) (F0 m 0 ls []) := by
  have hx := hM.1
  have hb := hM.2.1
  refine lv_aload_n hx hb dX11_read_0 rfl (lv_at hl 0 rfl) ?_
  refine x_gr (r := 16) hM hG xfl_X11_28 xct_0 (by decide) rfl dX11_read_1 ?_
  refine lv_iload_n hx hb dX11_read_4 rfl (lv_at hl 1 rfl) ?_
  refine x_cVi (As := [.int x1]) (rest := []) hM hG xml_X11_156 xwi_X4_has xws_X4_has xih_hay.1 (by decide) rfl h (fun S' v e => c_X4_has hM.2.2.2.2.2.2.1 xih_hay e _) ⟨Nat.le_of_ble_eq_true rfl, Nat.le_of_ble_eq_true rfl⟩ rfl hl.1 rfl (Nat.le_of_ble_eq_true rfl) dX11_read_5 (fun S_1 v_2 H locs h hG => ?_)
  refine x_if_ne (tgt := 13) hM h dX11_read_8 (by decide) (fun c_3 h => ?_) (fun c_3 h => ?_)
  · refine lv_aload_n hx hb dX11_read_13 rfl (lv_at hl 0 rfl) ?_
    refine x_gr (r := 16) hM hG xfl_X11_28 xct_0 (by decide) rfl dX11_read_14 ?_
    refine x_gr (r := 16 + 4) hM hG xfl_X11_168 xih_hay.1 (by decide) rfl dX11_read_17 ?_
    refine lv_iload_n hx hb dX11_read_20 rfl (lv_at hl 1 rfl) ?_
    refine x_iald hM hG xih_hay.2.2.2.2.1 h dX11_read_21 (fun v_4 h => ?_)
    refine lv_istore_n (lv' := [(2, .int v_4), (0, .ref (a 0)), (1, .int x1)]) hx hb dX11_read_22 rfl hl (by decide) rfl (fun ls hl => ?_)
    refine lv_aload_n hx hb dX11_read_23 rfl (lv_at hl 1 rfl) ?_
    refine x_gr (r := 16) hM hG xfl_X11_28 xct_0 (by decide) rfl dX11_read_24 ?_
    refine x_gr (r := 16 + 8) hM hG xfl_X11_267 xih_hay.1 (by decide) rfl dX11_read_27 ?_
    refine lv_iconst (v := (3 : Int32)) hx hb dX11_read_30 (by decide) ?_
    refine lv_dup2_11 hx hb dX11_read_31 rfl rfl ?_
    refine x_iald hM hG xih_hay.2.2.2.2.2.2.2.2.1 h dX11_read_32 (fun v_5 h => ?_)
    refine lv_iconst (v := (1 : Int32)) hx hb dX11_read_33 (by decide) ?_
    refine x_iadd hM h dX11_read_34 (fun v_6 h => ?_)
    refine x_iast hM hG xih_hay.2.2.2.2.2.2.2.2.1 h dX11_read_35 (fun S_7 H locs h hG => ?_)
    refine lv_aload_n hx hb dX11_read_36 rfl (lv_at hl 1 rfl) ?_
    refine x_gr (r := 16) hM hG xfl_X11_28 xct_0 (by decide) rfl dX11_read_37 ?_
    refine x_gr (r := 16 + 8) hM hG xfl_X11_267 xih_hay.1 (by decide) rfl dX11_read_40 ?_
    refine lv_iconst (v := (5 : Int32)) hx hb dX11_read_43 (by decide) ?_
    refine lv_aload_n hx hb dX11_read_44 rfl (lv_at hl 1 rfl) ?_
    refine x_gr (r := 16) hM hG xfl_X11_28 xct_0 (by decide) rfl dX11_read_45 ?_
    refine x_gr (r := 16 + 8) hM hG xfl_X11_267 xih_hay.1 (by decide) rfl dX11_read_48 ?_
    refine lv_iconst (v := (5 : Int32)) hx hb dX11_read_51 (by decide) ?_
    refine x_iald hM hG xih_hay.2.2.2.2.2.2.2.2.1 h dX11_read_52 (fun v_8 h => ?_)
    refine lv_iload_n hx hb dX11_read_53 rfl (lv_at hl 0 rfl) ?_
    refine x_mmax hM hl.1 xmm_X11_273 h (Nat.le_of_ble_eq_true rfl) (Nat.le_of_ble_eq_true rfl) dX11_read_54 (fun v_9 h => ?_)
    refine x_iast hM hG xih_hay.2.2.2.2.2.2.2.2.1 h dX11_read_57 (fun S_10 H locs h hG => ?_)
    refine lv_iload_n hx hb dX11_read_58 rfl (lv_at hl 0 rfl) ?_
    exact x_ri hM hG hr hlk rfl (k0 _ (Option.some.inj h).symm) dX11_read_59
  · refine lv_iconst (v := (-1 : Int32)) hx hb dX11_read_11 (by decide) ?_
    exact x_ri hM hG hr hlk rfl (k0 _ (Option.some.inj h).symm) dX11_read_12
set_option maxHeartbeats 4000000 in
set_option maxRecDepth 100000 in
theorem c_X11_read {l : Launch} {D : va_G} {cy : Nat → ClassId} {a z : Nat → Nat} (hI : xI xtb a) {S : xSt} {x1 : Int32} {S' : xSt} {v' : Int32} (hf : f_X11_read S x1 = some (S', v')) (sz : Nat) : Met l yX11_read (Cond.code yX11_read cX11_read 3 (some .int) :: xTB) ({ frames := 1, cells := 0, slots := 0, locals := 26 } : Room) (va_Pc [.ref (a 0), .int x1] (xPre D cy xtb a z S sz)) (xQi D cy xtb a S' v' sz) 0 0 (xA xtb a sz) := by
  refine Met.ofW (cc := cX11_read) (maxL := 3) (ret := (some .int)) (by decide) rfl ?_
  intro p e s m args below meth c s₁ B hml hv
  obtain ⟨rfl, hsz, hP, hK, hE⟩ := hv
  subst hsz
  have hl := lv_entry ([.ref (a 0), .int x1]) (n := 3) (Nat.le_of_ble_eq_true rfl)
  rw [lg_entry_eq]
  generalize (lg_sl ([.ref (a 0), .int x1]) ++ List.replicate (3 - (lg_sl ([.ref (a 0), .int x1])).length) Slot.unset).toArray = ls at hl ⊢
  have hl : lv_has ls 3 [(0, .ref (a 0)), (1, .int x1)] := hl
  exact w_X11_read_0 ⟨B.exec, B.bytes, hml, findClass_of_methodNamed B.named, fun w hw => atoms_spec (ws := Cond.code yX11_read cX11_read 3 (some .int) :: xTB) B.pre w (List.mem_cons_of_mem _ hw), hK, hI, hE⟩ B.returns B.notSynchronized hf (fun t0 e => e.symm) ⟨hP, va_S.rf⟩ (lv_sub hl [0, 1] rfl)
set_option maxHeartbeats 4000000 in
set_option maxRecDepth 100000 in
theorem w_X11_day_0 (hM : xM p c cX11_day m s args RX11 1 D cy xtb a z) (hr : meth.sig.returnType = (some .int)) (hlk : meth.locks = false) {S' : xSt} {v' : Int32} {S : xSt} {q : (xSt × Int32)} (h : f_X11_day_0 S = some q) (k0 : ∀ t0 : xSt × Int32, q = t0 → t0 = (S', v')) {H : Heap} {locs : List Loc} (hG : xG D cy xtb a S s H locs) {ls : Array Slot} (hl : lv_has ls 1 [(0, .ref (a 0))]) : W p l e ({ frames := 4, cells := 0, slots := 0, locals := 102 } : Room) s m args below meth c H locs 0 0 (MQ below (xQi D cy xtb a S' v' s.heap.size) args s 0 0 (xA xtb a s.heap.size)) (F0 m 0 ls []) := by
  have hx := hM.1
  have hb := hM.2.1
  refine lv_aload_n hx hb dX11_day_0 rfl (lv_at hl 0 rfl) ?_
  refine x_gr (r := 16) hM hG xfl_X11_28 xct_0 (by decide) rfl dX11_day_1 ?_
  refine x_cVv (As := []) (rest := []) hM hG xml_X11_278 xwi_X4_passDay xws_X4_passDay xih_hay.1 (by decide) rfl h (fun S' v e => c_X4_passDay hM.2.2.2.2.2.2.1 xih_hay e _) ⟨Nat.le_of_ble_eq_true rfl, Nat.le_of_ble_eq_true rfl⟩ rfl hl.1 rfl (Nat.le_of_ble_eq_true rfl) dX11_day_4 (fun S_1 v_2 H locs h hG => ?_)
  refine lv_aload_n hx hb dX11_day_7 rfl (lv_at hl 0 rfl) ?_
  refine x_gr (r := 16) hM hG xfl_X11_28 xct_0 (by decide) rfl dX11_day_8 ?_
  refine x_gr (r := 16 + 8) hM hG xfl_X11_267 xih_hay.1 (by decide) rfl dX11_day_11 ?_
  refine lv_iconst (v := (4 : Int32)) hx hb dX11_day_14 (by decide) ?_
  refine lv_dup2_11 hx hb dX11_day_15 rfl rfl ?_
  refine x_iald hM hG xih_hay.2.2.2.2.2.2.2.2.1 h dX11_day_16 (fun v_3 h => ?_)
  refine lv_iconst (v := (1 : Int32)) hx hb dX11_day_17 (by decide) ?_
  refine x_iadd hM h dX11_day_18 (fun v_4 h => ?_)
  refine x_iast hM hG xih_hay.2.2.2.2.2.2.2.2.1 h dX11_day_19 (fun S_5 H locs h hG => ?_)
  refine lv_aload_n hx hb dX11_day_20 rfl (lv_at hl 0 rfl) ?_
  refine x_gr (r := 16) hM hG xfl_X11_28 xct_0 (by decide) rfl dX11_day_21 ?_
  refine x_cVi (As := []) (rest := []) hM hG xml_X11_183 xwi_X4_glowing xws_X4_glowing xih_hay.1 (by decide) rfl h (fun S' v e => c_X4_glowing hM.2.2.2.2.2.2.1 xih_hay e _) ⟨Nat.le_of_ble_eq_true rfl, Nat.le_of_ble_eq_true rfl⟩ rfl hl.1 rfl (Nat.le_of_ble_eq_true rfl) dX11_day_24 (fun S_6 v_7 H locs h hG => ?_)
  exact x_ri hM hG hr hlk rfl (k0 _ (Option.some.inj h).symm) dX11_day_27
set_option maxHeartbeats 4000000 in
set_option maxRecDepth 100000 in
theorem c_X11_day {l : Launch} {D : va_G} {cy : Nat → ClassId} {a z : Nat → Nat} (hI : xI xtb a) {S : xSt} {S' : xSt} {v' : Int32} (hf : f_X11_day S = some (S', v')) (sz : Nat) : Met l yX11_day (Cond.code yX11_day cX11_day 1 (some .int) :: xTB) ({ frames := 4, cells := 0, slots := 0, locals := 102 } : Room) (va_Pc [.ref (a 0)] (xPre D cy xtb a z S sz)) (xQi D cy xtb a S' v' sz) 0 0 (xA xtb a sz) := by
  refine Met.ofW (cc := cX11_day) (maxL := 1) (ret := (some .int)) (by decide) rfl ?_
  intro p e s m args below meth c s₁ B hml hv
  obtain ⟨rfl, hsz, hP, hK, hE⟩ := hv
  subst hsz
  have hl := lv_entry ([.ref (a 0)]) (n := 1) (Nat.le_of_ble_eq_true rfl)
  rw [lg_entry_eq]
  generalize (lg_sl ([.ref (a 0)]) ++ List.replicate (1 - (lg_sl ([.ref (a 0)])).length) Slot.unset).toArray = ls at hl ⊢
  have hl : lv_has ls 1 [(0, .ref (a 0))] := hl
  exact w_X11_day_0 ⟨B.exec, B.bytes, hml, findClass_of_methodNamed B.named, fun w hw => atoms_spec (ws := Cond.code yX11_day cX11_day 1 (some .int) :: xTB) B.pre w (List.mem_cons_of_mem _ hw), hK, hI, hE⟩ B.returns B.notSynchronized hf (fun t0 e => e.symm) ⟨hP, va_S.rf⟩ (lv_sub hl [0] rfl)
set_option maxHeartbeats 4000000 in
set_option maxRecDepth 100000 in
theorem w_X11_led_0 {x1 : Int32} (hM : xM p c cX11_led m s args RX11 2 D cy xtb a z) (hr : meth.sig.returnType = (some .int)) (hlk : meth.locks = false) {S' : xSt} {v' : Int32} {S : xSt} {q : (xSt × Int32)} (h : f_X11_led_0 x1 S = some q) (k0 : ∀ t0 : xSt × Int32, q = t0 → t0 = (S', v')) {H : Heap} {locs : List Loc} (hG : xG D cy xtb a S s H locs) {ls : Array Slot} (hl : lv_has ls 2 [(0, .ref (a 0)), (1, .int x1)]) : W p l e ({ frames := 1, cells := 0, slots := 0, locals := 22 } : Room) s m args below meth c H locs 0 0 (MQ below (xQi D cy xtb a S' v' s.heap.size) args s 0 0 (xA xtb a s.heap.size)) (F0 m 0 ls []) := by
  have hx := hM.1
  have hb := hM.2.1
  refine lv_iload_n hx hb dX11_led_0 rfl (lv_at hl 1 rfl) ?_
  refine lv_iconst (v := (0 : Int32)) hx hb dX11_led_1 (by decide) ?_
  refine lv_iconst (v := (5 : Int32)) hx hb dX11_led_2 (by decide) ?_
  refine x_cSi (As := [.int x1, .int (0 : Int32), .int (5 : Int32)]) (rest := []) hM hG xml_X11_97 xwt_X11_within h (fun S' v e => c_X11_within hM.2.2.2.2.2.2.1 e _) ⟨Nat.le_of_ble_eq_true rfl, Nat.le_of_ble_eq_true rfl⟩ rfl hl.1 rfl (Nat.le_of_ble_eq_true rfl) dX11_led_3 (fun S_1 v_2 H locs h hG => ?_)
  refine x_if_eq (tgt := 21) hM h dX11_led_6 (by decide) (fun c_3 h => ?_) (fun c_3 h => ?_)
  · refine lv_iconst (v := (-1 : Int32)) hx hb dX11_led_21 (by decide) ?_
    exact x_ri hM hG hr hlk rfl (k0 _ (Option.some.inj h).symm) dX11_led_22
  · refine lv_aload_n hx hb dX11_led_9 rfl (lv_at hl 0 rfl) ?_
    refine x_gr (r := 16) hM hG xfl_X11_28 xct_0 (by decide) rfl dX11_led_10 ?_
    refine x_gr (r := 16 + 8) hM hG xfl_X11_267 xih_hay.1 (by decide) rfl dX11_led_13 ?_
    refine lv_iload_n hx hb dX11_led_16 rfl (lv_at hl 1 rfl) ?_
    refine x_iald hM hG xih_hay.2.2.2.2.2.2.2.2.1 h dX11_led_17 (fun v_4 h => ?_)
    refine lv_goto (tgt := 22) hx hb dX11_led_18 (by decide) ?_
    exact x_ri hM hG hr hlk rfl (k0 _ (Option.some.inj h).symm) dX11_led_22
set_option maxHeartbeats 4000000 in
set_option maxRecDepth 100000 in
theorem c_X11_led {l : Launch} {D : va_G} {cy : Nat → ClassId} {a z : Nat → Nat} (hI : xI xtb a) {S : xSt} {x1 : Int32} {S' : xSt} {v' : Int32} (hf : f_X11_led S x1 = some (S', v')) (sz : Nat) : Met l yX11_led (Cond.code yX11_led cX11_led 2 (some .int) :: xTB) ({ frames := 1, cells := 0, slots := 0, locals := 22 } : Room) (va_Pc [.ref (a 0), .int x1] (xPre D cy xtb a z S sz)) (xQi D cy xtb a S' v' sz) 0 0 (xA xtb a sz) := by
  refine Met.ofW (cc := cX11_led) (maxL := 2) (ret := (some .int)) (by decide) rfl ?_
  intro p e s m args below meth c s₁ B hml hv
  obtain ⟨rfl, hsz, hP, hK, hE⟩ := hv
  subst hsz
  have hl := lv_entry ([.ref (a 0), .int x1]) (n := 2) (Nat.le_of_ble_eq_true rfl)
  rw [lg_entry_eq]
  generalize (lg_sl ([.ref (a 0), .int x1]) ++ List.replicate (2 - (lg_sl ([.ref (a 0), .int x1])).length) Slot.unset).toArray = ls at hl ⊢
  have hl : lv_has ls 2 [(0, .ref (a 0)), (1, .int x1)] := hl
  exact w_X11_led_0 ⟨B.exec, B.bytes, hml, findClass_of_methodNamed B.named, fun w hw => atoms_spec (ws := Cond.code yX11_led cX11_led 2 (some .int) :: xTB) B.pre w (List.mem_cons_of_mem _ hw), hK, hI, hE⟩ B.returns B.notSynchronized hf (fun t0 e => e.symm) ⟨hP, va_S.rf⟩ (lv_sub hl [0, 1] rfl)
end XWwalkX3
