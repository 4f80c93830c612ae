section XWwalkM2
variable {p : Program} {l : Launch} {e : Env} {s : State} {m : MethodId} {args : Array Value} {below : List Frame} {meth : Method} {c : Code} {D : va_G} {cy : Nat → ClassId} {a z : Nat → Nat}
set_option maxHeartbeats 4000000 in
set_option maxRecDepth 100000 in
theorem w_X12_meanBeside_43 {x1 : Int32} {x2 : Int32} {x3 : Int32} {x4 : Int32} (hM : xM p c cX12_meanBeside m s args RX12 6 D cy xmb a z) (hr : meth.sig.returnType = (some .int)) (hlk : meth.locks = false) {S' : xSt} {v' : Int32} {S : xSt} {q : ((xSt × Int32 × Int32 × Int32) ⊕ (xSt × Int32))} (h : f_X12_meanBeside_43 x1 x2 x3 x4 S = some q) (k0 : ∀ t0 : xSt × Int32, q = (.inr t0) → t0 = (S', v')) (k1 : ∀ (S : xSt) (x2 : Int32) (x3 : Int32) (x4 : Int32), q = (.inl (S, x2, x3, x4)) → ∀ (H : Heap) (locs : List Loc) (ls : Array Slot), xG D cy xmb a S s H locs → lv_has ls 6 [(0, .ref (a 0)), (1, .int x1), (2, .int x2), (3, .int x3), (4, .int x4)] → W p l e ({ frames := 4, cells := 0, slots := 0, locals := 88 } : Room) s m args below meth c H locs 0 0 (MQ below (xQi D cy xmb a S' v' s.heap.size) args s 0 0 (xA xmb a s.heap.size)) (F0 m 7 ls [])) {H : Heap} {locs : List Loc} (hG : xG D cy xmb a S s H locs) {ls : Array Slot} (hl : lv_has ls 6 [(0, .ref (a 0)), (1, .int x1), (2, .int x2), (3, .int x3), (4, .int x4)]) : W p l e ({ frames := 4, cells := 0, slots := 0, locals := 88 } : Room) s m args below meth c H locs 0 0 (MQ below (xQi D cy xmb a S' v' s.heap.size) args s 0 0 (xA xmb a s.heap.size)) (F0 m 43 ls []) := by
  have hx := hM.1
  have hb := hM.2.1
  refine x_iinc hM (fun v => [(4, .int v), (0, .ref (a 0)), (1, .int x1), (2, .int x2), (3, .int x3)]) h dX12_meanBeside_43 hl (k := 4) rfl (by decide) (by decide) (fun _ => rfl) (fun v_1 ls h hl => ?_)
  refine lv_goto (tgt := 7) hx hb dX12_meanBeside_46 (by decide) ?_
  exact k1 _ _ _ _ (Option.some.inj h).symm _ _ _ hG (lv_sub hl [1, 2, 3, 4, 0] rfl)
set_option maxHeartbeats 4000000 in
set_option maxRecDepth 100000 in
theorem w_X12_meanBeside_49 {x2 : Int32} {x3 : Int32} (hM : xM p c cX12_meanBeside m s args RX12 6 D cy xmb a z) (hr : meth.sig.returnType = (some .int)) (hlk : meth.locks = false) {S' : xSt} {v' : Int32} {S : xSt} {q : (xSt × Int32)} (h : f_X12_meanBeside_49 x2 x3 S = some q) (k0 : ∀ t0 : xSt × Int32, q = t0 → t0 = (S', v')) {H : Heap} {locs : List Loc} (hG : xG D cy xmb a S s H locs) {ls : Array Slot} (hl : lv_has ls 6 [(2, .int x2), (3, .int x3)]) : W p l e ({ frames := 4, cells := 0, slots := 0, locals := 88 } : Room) s m args below meth c H locs 0 0 (MQ below (xQi D cy xmb a S' v' s.heap.size) args s 0 0 (xA xmb a s.heap.size)) (F0 m 49 ls []) := by
  have hx := hM.1
  have hb := hM.2.1
  refine lv_iload_n hx hb dX12_meanBeside_49 rfl (lv_at hl 0 rfl) ?_
  refine x_if_ne (tgt := 58) hM h dX12_meanBeside_50 (by decide) (fun c_1 h => ?_) (fun c_1 h => ?_)
  · refine lv_iload_n hx hb dX12_meanBeside_58 rfl (lv_at hl 1 rfl) ?_
    refine lv_iload_n hx hb dX12_meanBeside_59 rfl (lv_at hl 0 rfl) ?_
    refine x_idiv hM h dX12_meanBeside_60 (fun v_2 h => ?_)
    exact x_ri hM hG hr hlk rfl (k0 _ (Option.some.inj h).symm) dX12_meanBeside_61
  · refine lv_bipush (v := (20 : Int32)) hx hb dX12_meanBeside_53 (by decide) ?_
    refine lv_goto (tgt := 61) hx hb dX12_meanBeside_55 (by decide) ?_
    exact x_ri hM hG hr hlk rfl (k0 _ (Option.some.inj h).symm) dX12_meanBeside_61
set_option maxHeartbeats 4000000 in
set_option maxRecDepth 100000 in
theorem w_X12_meanBeside_7 {x1 : Int32} {x2 : Int32} {x3 : Int32} {x4 : Int32} (hM : xM p c cX12_meanBeside m s args RX12 6 D cy xmb a z) (hr : meth.sig.returnType = (some .int)) (hlk : meth.locks = false) {S' : xSt} {v' : Int32} {S : xSt} {q : ((xSt × Int32 × Int32 × Int32) ⊕ (xSt × Int32))} (h : f_X12_meanBeside_7 x1 S x2 x3 x4 = some q) (k0 : ∀ t0 : xSt × Int32, q = (.inr t0) → t0 = (S', v')) (k1 : ∀ (S : xSt) (x2 : Int32) (x3 : Int32) (x4 : Int32), q = (.inl (S, x2, x3, x4)) → ∀ (H : Heap) (locs : List Loc) (ls : Array Slot), xG D cy xmb a S s H locs → lv_has ls 6 [(0, .ref (a 0)), (1, .int x1), (2, .int x2), (3, .int x3), (4, .int x4)] → W p l e ({ frames := 4, cells := 0, slots := 0, locals := 88 } : Room) s m args below meth c H locs 0 0 (MQ below (xQi D cy xmb a S' v' s.heap.size) args s 0 0 (xA xmb a s.heap.size)) (F0 m 7 ls [])) {H : Heap} {locs : List Loc} (hG : xG D cy xmb a S s H locs) {ls : Array Slot} (hl : lv_has ls 6 [(0, .ref (a 0)), (1, .int x1), (2, .int x2), (3, .int x3), (4, .int x4)]) : W p l e ({ frames := 4, cells := 0, slots := 0, locals := 88 } : Room) s m args below meth c H locs 0 0 (MQ below (xQi D cy xmb a S' v' s.heap.size) args s 0 0 (xA xmb a s.heap.size)) (F0 m 7 ls []) := by
  have hx := hM.1
  have hb := hM.2.1
  refine lv_iload hx hb dX12_meanBeside_7 (lv_at hl 4 rfl) ?_
  refine lv_iconst (v := (4 : Int32)) hx hb dX12_meanBeside_9 (by decide) ?_
  refine x_icmp_ge (tgt := 49) hM h dX12_meanBeside_10 (by decide) (fun c_1 h => ?_) (fun c_1 h => ?_)
  · obtain ⟨q1, h, e1⟩ := xmr_at h
    exact w_X12_meanBeside_49 hM hr hlk h (fun t0 e => k0 t0 (by rw [e1, e])) hG (lv_sub hl [2, 3] rfl)
  · refine lv_aload_n hx hb dX12_meanBeside_13 rfl (lv_at hl 0 rfl) ?_
    refine lv_iload_n hx hb dX12_meanBeside_14 rfl (lv_at hl 1 rfl) ?_
    refine lv_iload hx hb dX12_meanBeside_15 (lv_at hl 4 rfl) ?_
    refine x_cVi (As := [.int x1, .int x4]) (rest := []) hM hG xml_X12_260 xwi_X12_beside xws_X12_beside xmt_0 (by decide) rfl h (fun S' v e => c_X12_beside hM.2.2.2.2.2.2.1 e _) ⟨Nat.le_of_ble_eq_true rfl, Nat.le_of_ble_eq_true rfl⟩ rfl hl.1 rfl (Nat.le_of_ble_eq_true rfl) dX12_meanBeside_17 (fun S_2 v_3 H locs h hG => ?_)
    refine lv_istore (lv' := [(5, .int v_3), (0, .ref (a 0)), (1, .int x1), (2, .int x2), (3, .int x3), (4, .int x4)]) hx hb dX12_meanBeside_20 hl (by decide) rfl (fun ls hl => ?_)
    refine lv_iload hx hb dX12_meanBeside_22 (lv_at hl 0 rfl) ?_
    refine x_if_ge (tgt := 30) hM h dX12_meanBeside_24 (by decide) (fun c_4 h => ?_) (fun c_4 h => ?_)
    · refine x_iinc hM (fun v => [(2, .int v), (5, .int v_3), (0, .ref (a 0)), (1, .int x1), (3, .int x3), (4, .int x4)]) h dX12_meanBeside_30 hl (k := 3) rfl (by decide) (by decide) (fun _ => rfl) (fun v_5 ls h hl => ?_)
      refine lv_iload_n hx hb dX12_meanBeside_33 rfl (lv_at hl 4 rfl) ?_
      refine lv_aload_n hx hb dX12_meanBeside_34 rfl (lv_at hl 2 rfl) ?_
      refine x_gr (r := 24) hM hG xfl_X12_83 xmt_0 (by decide) rfl dX12_meanBeside_35 ?_
      refine lv_iload hx hb dX12_meanBeside_38 (lv_at hl 1 rfl) ?_
      refine x_iald hM hG xmt_24 h dX12_meanBeside_40 (fun v_6 h => ?_)
      refine x_iadd hM h dX12_meanBeside_41 (fun v_7 h => ?_)
      refine lv_istore_n (lv' := [(3, .int v_7), (2, .int v_5), (5, .int v_3), (0, .ref (a 0)), (1, .int x1), (4, .int x4)]) hx hb dX12_meanBeside_42 rfl hl (by decide) rfl (fun ls hl => ?_)
      exact w_X12_meanBeside_43 hM hr hlk h (fun t0 e => k0 t0 e) (fun S x2 x3 x4 e => k1 S x2 x3 x4 e) hG (lv_sub hl [3, 4, 1, 0, 5] rfl)
    · refine lv_goto (tgt := 43) hx hb dX12_meanBeside_27 (by decide) ?_
      exact w_X12_meanBeside_43 hM hr hlk h (fun t0 e => k0 t0 e) (fun S x2 x3 x4 e => k1 S x2 x3 x4 e) hG (lv_sub hl [1, 2, 3, 4, 5] rfl)
theorem wl_X12_meanBeside_7 {x1 : Int32} (hM : xM p c cX12_meanBeside m s args RX12 6 D cy xmb a z) (hr : meth.sig.returnType = (some .int)) (hlk : meth.locks = false) {S' : xSt} {v' : Int32} {q : (xSt × Int32)} (k0 : ∀ t0 : xSt × Int32, q = t0 → t0 = (S', v')) (n : Nat) : ∀ (S : xSt) (x2 : Int32) (x3 : Int32) (x4 : Int32) (H : Heap) (locs : List Loc) (ls : Array Slot), xlp (fun q : (xSt × Int32 × Int32 × Int32) => f_X12_meanBeside_7 x1 q.1 q.2.1 q.2.2.1 q.2.2.2) n (S, x2, x3, x4) = some q → xG D cy xmb a S s H locs → lv_has ls 6 [(0, .ref (a 0)), (1, .int x1), (2, .int x2), (3, .int x3), (4, .int x4)] → W p l e ({ frames := 4, cells := 0, slots := 0, locals := 88 } : Room) s m args below meth c H locs 0 0 (MQ below (xQi D cy xmb a S' v' s.heap.size) args s 0 0 (xA xmb a s.heap.size)) (F0 m 7 ls []) := by
  induction n with
  | zero => intro S x2 x3 x4 H locs ls h; exact (xlp_0 h).elim
  | succ n ih =>
    intro S x2 x3 x4 H locs ls h hG hl
    obtain ⟨q1, hq, hc, he⟩ := xlp_at h
    exact w_X12_meanBeside_7 hM hr hlk (q := q1) hq (fun t0 e => k0 t0 (he _ e).symm) (fun S x2 x3 x4 e H locs ls hG hl => ih S x2 x3 x4 H locs ls (hc _ e) hG hl) hG hl
set_option maxHeartbeats 4000000 in
set_option maxRecDepth 100000 in
theorem w_X12_meanBeside_0 {x1 : Int32} (hM : xM p c cX12_meanBeside m s args RX12 6 D cy xmb a z) (hr : meth.sig.returnType = (some .int)) (hlk : meth.locks = false) {S' : xSt} {v' : Int32} {S : xSt} {q : (xSt × Int32)} (h : f_X12_meanBeside_0 x1 S = some q) (k0 : ∀ t0 : xSt × Int32, q = t0 → t0 = (S', v')) {H : Heap} {locs : List Loc} (hG : xG D cy xmb a S s H locs) {ls : Array Slot} (hl : lv_has ls 6 [(0, .ref (a 0)), (1, .int x1)]) : W p l e ({ frames := 4, cells := 0, slots := 0, locals := 88 } : Room) s m args below meth c H locs 0 0 (MQ below (xQi D cy xmb a S' v' s.heap.size) args s 0 0 (xA xmb a s.heap.size)) (F0 m 0 ls []) := by
  have hx := hM.1
  have hb := hM.2.1
  refine lv_iconst (v := (0 : Int32)) hx hb dX12_meanBeside_0 (by decide) ?_
  refine lv_istore_n (lv' := [(2, .int (0 : Int32)), (0, .ref (a 0)), (1, .int x1)]) hx hb dX12_meanBeside_1 rfl hl (by decide) rfl (fun ls hl => ?_)
  refine lv_iconst (v := (0 : Int32)) hx hb dX12_meanBeside_2 (by decide) ?_
  refine lv_istore_n (lv' := [(3, .int (0 : Int32)), (2, .int (0 : Int32)), (0, .ref (a 0)), (1, .int x1)]) hx hb dX12_meanBeside_3 rfl hl (by decide) rfl (fun ls hl => ?_)
  refine lv_iconst (v := (0 : Int32)) hx hb dX12_meanBeside_4 (by decide) ?_
  refine lv_istore (lv' := [(4, .int (0 : Int32)), (3, .int (0 : Int32)), (2, .int (0 : Int32)), (0, .ref (a 0)), (1, .int x1)]) hx hb dX12_meanBeside_5 hl (by decide) rfl (fun ls hl => ?_)
  exact wl_X12_meanBeside_7 hM hr hlk (fun t0 e => k0 t0 e) 5000 _ _ _ _ _ _ _ h hG (lv_sub hl [3, 4, 2, 1, 0] rfl)
set_option maxHeartbeats 4000000 in
set_option maxRecDepth 100000 in
theorem c_X12_meanBeside {l : Launch} {D : va_G} {cy : Nat → ClassId} {a z : Nat → Nat} (hI : xI xmb a) {S : xSt} {x1 : Int32} {S' : xSt} {v' : Int32} (hf : f_X12_meanBeside S x1 = some (S', v')) (sz : Nat) : Met l yX12_meanBeside (Cond.code yX12_meanBeside cX12_meanBeside 6 (some .int) :: xTB) ({ frames := 4, cells := 0, slots := 0, locals := 88 } : Room) (va_Pc [.ref (a 0), .int x1] (xPre D cy xmb a z S sz)) (xQi D cy xmb a S' v' sz) 0 0 (xA xmb a sz) := by
  refine Met.ofW (cc := cX12_meanBeside) (maxL := 6) (ret := (some .int)) (by decide) rfl ?_
  intro p e s m args below meth c s₁ B hml hv
  obtain ⟨rfl, hsz, hP, hK, hE⟩ := hv
  subst hsz
  have hl := lv_entry ([.ref (a 0), .int x1]) (n := 6) (Nat.le_of_ble_eq_true rfl)
  rw [lg_entry_eq]
  generalize (lg_sl ([.ref (a 0), .int x1]) ++ List.replicate (6 - (lg_sl ([.ref (a 0), .int x1])).length) Slot.unset).toArray = ls at hl ⊢
  have hl : lv_has ls 6 [(0, .ref (a 0)), (1, .int x1)] := hl
  exact w_X12_meanBeside_0 ⟨B.exec, B.bytes, hml, findClass_of_methodNamed B.named, fun w hw => atoms_spec (ws := Cond.code yX12_meanBeside cX12_meanBeside 6 (some .int) :: xTB) B.pre w (List.mem_cons_of_mem _ hw), hK, hI, hE⟩ B.returns B.notSynchronized hf (fun t0 e => e.symm) ⟨hP, va_S.rf⟩ (lv_sub hl [0, 1] rfl)
set_option maxHeartbeats 4000000 in
set_option maxRecDepth 100000 in
theorem w_X12_heatsBy_119 {x2 : Int32} (hM : xM p c cX12_heatsBy m s args RX12 3 D cy xmb a z) (hr : meth.sig.returnType = (some .int)) (hlk : meth.locks = false) {S' : xSt} {v' : Int32} {S : xSt} {q : (xSt × Int32)} (h : f_X12_heatsBy_119 x2 S = some q) (k0 : ∀ t0 : xSt × Int32, q = t0 → t0 = (S', v')) {H : Heap} {locs : List Loc} (hG : xG D cy xmb a S s H locs) {ls : Array Slot} (hl : lv_has ls 3 [(2, .int x2)]) : W p l e ({ frames := 5, cells := 0, slots := 0, locals := 113 } : Room) s m args below meth c H locs 0 0 (MQ below (xQi D cy xmb a S' v' s.heap.size) args s 0 0 (xA xmb a s.heap.size)) (F0 m 119 ls []) := by
  have hx := hM.1
  have hb := hM.2.1
  refine lv_iload_n hx hb dX12_heatsBy_119 rfl (lv_at hl 0 rfl) ?_
  refine lv_bipush (v := (-20 : Int32)) hx hb dX12_heatsBy_120 (by decide) ?_
  refine x_icmp_ge (tgt := 130) hM h dX12_heatsBy_122 (by decide) (fun c_1 h => ?_) (fun c_1 h => ?_)
  · refine lv_iload_n hx hb dX12_heatsBy_130 rfl (lv_at hl 0 rfl) ?_
    refine lv_bipush (v := (20 : Int32)) hx hb dX12_heatsBy_131 (by decide) ?_
    refine x_icmp_le (tgt := 141) hM h dX12_heatsBy_133 (by decide) (fun c_2 h => ?_) (fun c_2 h => ?_)
    · refine lv_iload_n hx hb dX12_heatsBy_141 rfl (lv_at hl 0 rfl) ?_
      exact x_ri hM hG hr hlk rfl (k0 _ (Option.some.inj h).symm) dX12_heatsBy_142
    · refine lv_bipush (v := (20 : Int32)) hx hb dX12_heatsBy_136 (by decide) ?_
      refine lv_goto (tgt := 142) hx hb dX12_heatsBy_138 (by decide) ?_
      exact x_ri hM hG hr hlk rfl (k0 _ (Option.some.inj h).symm) dX12_heatsBy_142
  · refine lv_bipush (v := (-20 : Int32)) hx hb dX12_heatsBy_125 (by decide) ?_
    refine lv_goto (tgt := 142) hx hb dX12_heatsBy_127 (by decide) ?_
    exact x_ri hM hG hr hlk rfl (k0 _ (Option.some.inj h).symm) dX12_heatsBy_142
set_option maxHeartbeats 4000000 in
set_option maxRecDepth 100000 in
theorem w_X12_heatsBy_0 {x1 : Int32} (hM : xM p c cX12_heatsBy m s args RX12 3 D cy xmb a z) (hr : meth.sig.returnType = (some .int)) (hlk : meth.locks = false) {S' : xSt} {v' : Int32} {S : xSt} {q : (xSt × Int32)} (h : f_X12_heatsBy_0 x1 S = some q) (k0 : ∀ t0 : xSt × Int32, q = t0 → t0 = (S', v')) {H : Heap} {locs : List Loc} (hG : xG D cy xmb a S s H locs) {ls : Array Slot} (hl : lv_has ls 3 [(0, .ref (a 0)), (1, .int x1)]) : W p l e ({ frames := 5, cells := 0, slots := 0, locals := 113 } : Room) s m args below meth c H locs 0 0 (MQ below (xQi D cy xmb a S' v' s.heap.size) args s 0 0 (xA xmb a s.heap.size)) (F0 m 0 ls []) := by
  have hx := hM.1
  have hb := hM.2.1
  refine lv_iconst (v := (2 : Int32)) hx hb dX12_heatsBy_0 (by decide) ?_
  refine lv_aload_n hx hb dX12_heatsBy_1 rfl (lv_at hl 0 rfl) ?_
  refine x_gr (r := 23) hM hG xfl_X12_80 xmt_0 (by decide) rfl dX12_heatsBy_2 ?_
  refine lv_iload_n hx hb dX12_heatsBy_5 rfl (lv_at hl 1 rfl) ?_
  refine x_iald hM hG xmt_23 h dX12_heatsBy_6 (fun v_1 h => ?_)
  refine x_imul hM h dX12_heatsBy_7 (fun v_2 h => ?_)
  refine lv_aload_n hx hb dX12_heatsBy_8 rfl (lv_at hl 0 rfl) ?_
  refine lv_iload_n hx hb dX12_heatsBy_9 rfl (lv_at hl 1 rfl) ?_
  refine x_cVi (As := [.int x1]) (rest := [.int v_2]) hM hG xml_X12_263 xwi_X12_airOf xws_X12_airOf xmt_0 (by decide) rfl h (fun S' v e => c_X12_airOf hM.2.2.2.2.2.2.1 e _) ⟨Nat.le_of_ble_eq_true rfl, Nat.le_of_ble_eq_true rfl⟩ rfl hl.1 rfl (Nat.le_of_ble_eq_true rfl) dX12_heatsBy_10 (fun S_3 v_4 H locs h hG => ?_)
  refine x_isub hM h dX12_heatsBy_13 (fun v_5 h => ?_)
  refine lv_iconst (v := (4 : Int32)) hx hb dX12_heatsBy_14 (by decide) ?_
  refine lv_aload_n hx hb dX12_heatsBy_15 rfl (lv_at hl 0 rfl) ?_
  refine x_gr (r := 26) hM hG xfl_X12_89 xmt_0 (by decide) rfl dX12_heatsBy_16 ?_
  refine lv_iload_n hx hb dX12_heatsBy_19 rfl (lv_at hl 1 rfl) ?_
  refine x_iald hM hG xmt_26 h dX12_heatsBy_20 (fun v_6 h => ?_)
  refine x_imul hM h dX12_heatsBy_21 (fun v_7 h => ?_)
  refine x_isub hM h dX12_heatsBy_22 (fun v_8 h => ?_)
  refine lv_aload_n hx hb dX12_heatsBy_23 rfl (lv_at hl 0 rfl) ?_
  refine lv_iload_n hx hb dX12_heatsBy_24 rfl (lv_at hl 1 rfl) ?_
  refine x_cVi (As := [.int x1]) (rest := [.int v_8]) hM hG xml_X12_266 xwi_X12_meanBeside xws_X12_meanBeside xmt_0 (by decide) rfl h (fun S' v e => c_X12_meanBeside hM.2.2.2.2.2.2.1 e _) ⟨Nat.le_of_ble_eq_true rfl, Nat.le_of_ble_eq_true rfl⟩ rfl hl.1 rfl (Nat.le_of_ble_eq_true rfl) dX12_heatsBy_25 (fun S_9 v_10 H locs h hG => ?_)
  refine lv_aload_n hx hb dX12_heatsBy_28 rfl (lv_at hl 0 rfl) ?_
  refine x_gr (r := 24) hM hG xfl_X12_83 xmt_0 (by decide) rfl dX12_heatsBy_29 ?_
  refine lv_iload_n hx hb dX12_heatsBy_32 rfl (lv_at hl 1 rfl) ?_
  refine x_iald hM hG xmt_24 h dX12_heatsBy_33 (fun v_11 h => ?_)
  refine x_isub hM h dX12_heatsBy_34 (fun v_12 h => ?_)
  refine lv_iconst (v := (4 : Int32)) hx hb dX12_heatsBy_35 (by decide) ?_
  refine x_idiv hM h dX12_heatsBy_36 (fun v_13 h => ?_)
  refine x_iadd hM h dX12_heatsBy_37 (fun v_14 h => ?_)
  refine lv_istore_n (lv' := [(2, .int v_14), (0, .ref (a 0)), (1, .int x1)]) hx hb dX12_heatsBy_38 rfl hl (by decide) rfl (fun ls hl => ?_)
  refine lv_aload_n hx hb dX12_heatsBy_39 rfl (lv_at hl 1 rfl) ?_
  refine x_gi hM hG xfl_X12_253 xmt_0 (by decide) rfl h dX12_heatsBy_40 (fun v_15 h => ?_)
  refine x_if_eq (tgt := 119) hM h dX12_heatsBy_43 (by decide) (fun c_16 h => ?_) (fun c_16 h => ?_)
  · exact w_X12_heatsBy_119 hM hr hlk h (fun t0 e => k0 t0 e) hG (lv_sub hl [0] rfl)
  · refine lv_aload_n hx hb dX12_heatsBy_46 rfl (lv_at hl 1 rfl) ?_
    refine x_gr (r := 20) hM hG xfl_X12_71 xmt_0 (by decide) rfl dX12_heatsBy_47 ?_
    refine lv_iconst (v := (0 : Int32)) hx hb dX12_heatsBy_50 (by decide) ?_
    refine lv_aload_n hx hb dX12_heatsBy_51 rfl (lv_at hl 1 rfl) ?_
    refine x_gr (r := 23) hM hG xfl_X12_80 xmt_0 (by decide) rfl dX12_heatsBy_52 ?_
    refine lv_iload_n hx hb dX12_heatsBy_55 rfl (lv_at hl 2 rfl) ?_
    refine x_iald hM hG xmt_23 h dX12_heatsBy_56 (fun v_17 h => ?_)
    refine x_iast hM hG xmt_20 h dX12_heatsBy_57 (fun S_18 H locs h hG => ?_)
    refine lv_aload_n hx hb dX12_heatsBy_58 rfl (lv_at hl 1 rfl) ?_
    refine x_gr (r := 20) hM hG xfl_X12_71 xmt_0 (by decide) rfl dX12_heatsBy_59 ?_
    refine lv_iconst (v := (1 : Int32)) hx hb dX12_heatsBy_62 (by decide) ?_
    refine lv_aload_n hx hb dX12_heatsBy_63 rfl (lv_at hl 1 rfl) ?_
    refine x_gr (r := 24) hM hG xfl_X12_83 xmt_0 (by decide) rfl dX12_heatsBy_64 ?_
    refine lv_iload_n hx hb dX12_heatsBy_67 rfl (lv_at hl 2 rfl) ?_
    refine x_iald hM hG xmt_24 h dX12_heatsBy_68 (fun v_19 h => ?_)
    refine x_iast hM hG xmt_20 h dX12_heatsBy_69 (fun S_20 H locs h hG => ?_)
    refine lv_aload_n hx hb dX12_heatsBy_70 rfl (lv_at hl 1 rfl) ?_
    refine x_gr (r := 20) hM hG xfl_X12_71 xmt_0 (by decide) rfl dX12_heatsBy_71 ?_
    refine lv_iconst (v := (2 : Int32)) hx hb dX12_heatsBy_74 (by decide) ?_
    refine lv_aload_n hx hb dX12_heatsBy_75 rfl (lv_at hl 1 rfl) ?_
    refine lv_iload_n hx hb dX12_heatsBy_76 rfl (lv_at hl 2 rfl) ?_
    refine x_cVi (As := [.int x1]) (rest := [.int (2 : Int32), .ref (a 20)]) hM hG xml_X12_263 xwi_X12_airOf xws_X12_airOf xmt_0 (by decide) rfl h (fun S' v e => c_X12_airOf hM.2.2.2.2.2.2.1 e _) ⟨Nat.le_of_ble_eq_true rfl, Nat.le_of_ble_eq_true rfl⟩ rfl hl.1 rfl (Nat.le_of_ble_eq_true rfl) dX12_heatsBy_77 (fun S_21 v_22 H locs h hG => ?_)
    refine x_iast hM hG xmt_20 h dX12_heatsBy_80 (fun S_23 H locs h hG => ?_)
    refine lv_aload_n hx hb dX12_heatsBy_81 rfl (lv_at hl 1 rfl) ?_
    refine x_gr (r := 20) hM hG xfl_X12_71 xmt_0 (by decide) rfl dX12_heatsBy_82 ?_
    refine lv_iconst (v := (3 : Int32)) hx hb dX12_heatsBy_85 (by decide) ?_
    refine lv_aload_n hx hb dX12_heatsBy_86 rfl (lv_at hl 1 rfl) ?_
    refine x_gr (r := 26) hM hG xfl_X12_89 xmt_0 (by decide) rfl dX12_heatsBy_87 ?_
    refine lv_iload_n hx hb dX12_heatsBy_90 rfl (lv_at hl 2 rfl) ?_
    refine x_iald hM hG xmt_26 h dX12_heatsBy_91 (fun v_24 h => ?_)
    refine x_iast hM hG xmt_20 h dX12_heatsBy_92 (fun S_25 H locs h hG => ?_)
    refine lv_aload_n hx hb dX12_heatsBy_93 rfl (lv_at hl 1 rfl) ?_
    refine x_gr (r := 20) hM hG xfl_X12_71 xmt_0 (by decide) rfl dX12_heatsBy_94 ?_
    refine lv_iconst (v := (4 : Int32)) hx hb dX12_heatsBy_97 (by decide) ?_
    refine lv_aload_n hx hb dX12_heatsBy_98 rfl (lv_at hl 1 rfl) ?_
    refine lv_iload_n hx hb dX12_heatsBy_99 rfl (lv_at hl 2 rfl) ?_
    refine x_cVi (As := [.int x1]) (rest := [.int (4 : Int32), .ref (a 20)]) hM hG xml_X12_266 xwi_X12_meanBeside xws_X12_meanBeside xmt_0 (by decide) rfl h (fun S' v e => c_X12_meanBeside hM.2.2.2.2.2.2.1 e _) ⟨Nat.le_of_ble_eq_true rfl, Nat.le_of_ble_eq_true rfl⟩ rfl hl.1 rfl (Nat.le_of_ble_eq_true rfl) dX12_heatsBy_100 (fun S_26 v_27 H locs h hG => ?_)
    refine x_iast hM hG xmt_20 h dX12_heatsBy_103 (fun S_28 H locs h hG => ?_)
    refine lv_aload_n hx hb dX12_heatsBy_104 rfl (lv_at hl 1 rfl) ?_
    refine x_gr (r := 20) hM hG xfl_X12_71 xmt_0 (by decide) rfl dX12_heatsBy_105 ?_
    refine lv_iconst (v := (5 : Int32)) hx hb dX12_heatsBy_108 (by decide) ?_
    refine lv_iload_n hx hb dX12_heatsBy_109 rfl (lv_at hl 2 rfl) ?_
    refine lv_iconst (v := (5 : Int32)) hx hb dX12_heatsBy_110 (by decide) ?_
    refine x_irem hM h dX12_heatsBy_111 (fun v_29 h => ?_)
    refine x_iast hM hG xmt_20 h dX12_heatsBy_112 (fun S_30 H locs h hG => ?_)
    refine lv_aload_n hx hb dX12_heatsBy_113 rfl (lv_at hl 1 rfl) ?_
    refine lv_iconst (v := (0 : Int32)) hx hb dX12_heatsBy_114 (by decide) ?_
    refine x_cVi (As := [.int (0 : Int32)]) (rest := []) hM hG xml_X12_269 xwi_X12_gives xws_X12_gives xmt_0 (by decide) rfl h (fun S' v e => c_X12_gives hM.2.2.2.2.2.2.1 e _) ⟨Nat.le_of_ble_eq_true rfl, Nat.le_of_ble_eq_true rfl⟩ rfl hl.1 rfl (Nat.le_of_ble_eq_true rfl) dX12_heatsBy_115 (fun S_31 v_32 H locs h hG => ?_)
    refine lv_istore_n (lv' := [(2, .int v_32), (0, .ref (a 0)), (1, .int x1)]) hx hb dX12_heatsBy_118 rfl hl (by decide) rfl (fun ls hl => ?_)
    exact w_X12_heatsBy_119 hM hr hlk h (fun t0 e => k0 t0 e) hG (lv_sub hl [0] rfl)
set_option maxHeartbeats 4000000 in
set_option maxRecDepth 100000 in
theorem c_X12_heatsBy {l : Launch} {D : va_G} {cy : Nat → ClassId} {a z : Nat → Nat} (hI : xI xmb a) {S : xSt} {x1 : Int32} {S' : xSt} {v' : Int32} (hf : f_X12_heatsBy S x1 = some (S', v')) (sz : Nat) : Met l yX12_heatsBy (Cond.code yX12_heatsBy cX12_heatsBy 3 (some .int) :: xTB) ({ frames := 5, cells := 0, slots := 0, locals := 113 } : Room) (va_Pc [.ref (a 0), .int x1] (xPre D cy xmb a z S sz)) (xQi D cy xmb a S' v' sz) 0 0 (xA xmb a sz) := by
  refine Met.ofW (cc := cX12_heatsBy) (maxL := 3) (ret := (some .int)) (by decide) rfl ?_
  intro p e s m args below meth c s₁ B hml hv
  obtain ⟨rfl, hsz, hP, hK, hE⟩ := hv
  subst hsz
  have hl := lv_entry ([.ref (a 0), .int x1]) (n := 3) (Nat.le_of_ble_eq_true rfl)
  rw [lg_entry_eq]
  generalize (lg_sl ([.ref (a 0), .int x1]) ++ List.replicate (3 - (lg_sl ([.ref (a 0), .int x1])).length) Slot.unset).toArray = ls at hl ⊢
  have hl : lv_has ls 3 [(0, .ref (a 0)), (1, .int x1)] := hl
  exact w_X12_heatsBy_0 ⟨B.exec, B.bytes, hml, findClass_of_methodNamed B.named, fun w hw => atoms_spec (ws := Cond.code yX12_heatsBy cX12_heatsBy 3 (some .int) :: xTB) B.pre w (List.mem_cons_of_mem _ hw), hK, hI, hE⟩ B.returns B.notSynchronized hf (fun t0 e => e.symm) ⟨hP, va_S.rf⟩ (lv_sub hl [0, 1] rfl)
set_option maxHeartbeats 4000000 in
set_option maxRecDepth 100000 in
theorem w_X12_heats_0 {x1 : Int32} (hM : xM p c cX12_heats m s args RX12 2 D cy xmb a z) (hr : meth.sig.returnType = (some .int)) (hlk : meth.locks = false) {S' : xSt} {v' : Int32} {S : xSt} {q : (xSt × Int32)} (h : f_X12_heats_0 x1 S = some q) (k0 : ∀ t0 : xSt × Int32, q = t0 → t0 = (S', v')) {H : Heap} {locs : List Loc} (hG : xG D cy xmb a S s H locs) {ls : Array Slot} (hl : lv_has ls 2 [(0, .ref (a 0)), (1, .int x1)]) : W p l e ({ frames := 6, cells := 0, slots := 0, locals := 135 } : Room) s m args below meth c H locs 0 0 (MQ below (xQi D cy xmb a S' v' s.heap.size) args s 0 0 (xA xmb a s.heap.size)) (F0 m 0 ls []) := by
  have hx := hM.1
  have hb := hM.2.1
  refine lv_aload_n hx hb dX12_heats_0 rfl (lv_at hl 0 rfl) ?_
  refine lv_iload_n hx hb dX12_heats_1 rfl (lv_at hl 1 rfl) ?_
  refine x_cVi (As := [.int x1]) (rest := []) hM hG xml_X12_173 xwi_X12_isCell xws_X12_isCell xmt_0 (by decide) rfl h (fun S' v e => c_X12_isCell hM.2.2.2.2.2.2.1 e _) ⟨Nat.le_of_ble_eq_true rfl, Nat.le_of_ble_eq_true rfl⟩ rfl hl.1 rfl (Nat.le_of_ble_eq_true rfl) dX12_heats_2 (fun S_1 v_2 H locs h hG => ?_)
  refine x_if_ne (tgt := 12) hM h dX12_heats_5 (by decide) (fun c_3 h => ?_) (fun c_3 h => ?_)
  · refine lv_aload_n hx hb dX12_heats_12 rfl (lv_at hl 0 rfl) ?_
    refine x_cVv (As := []) (rest := []) hM hG xml_X12_273 xwi_X12_layNow xws_X12_layNow xmt_0 (by decide) rfl h (fun S' v e => c_X12_layNow hM.2.2.2.2.2.2.1 e _) ⟨Nat.le_of_ble_eq_true rfl, Nat.le_of_ble_eq_true rfl⟩ rfl hl.1 rfl (Nat.le_of_ble_eq_true rfl) dX12_heats_13 (fun S_4 v_5 H locs h hG => ?_)
    refine lv_aload_n hx hb dX12_heats_16 rfl (lv_at hl 0 rfl) ?_
    refine lv_iload_n hx hb dX12_heats_17 rfl (lv_at hl 1 rfl) ?_
    refine x_cVi (As := [.int x1]) (rest := []) hM hG xml_X12_276 xwi_X12_heatsBy xws_X12_heatsBy xmt_0 (by decide) rfl h (fun S' v e => c_X12_heatsBy hM.2.2.2.2.2.2.1 e _) ⟨Nat.le_of_ble_eq_true rfl, Nat.le_of_ble_eq_true rfl⟩ rfl hl.1 rfl (Nat.le_of_ble_eq_true rfl) dX12_heats_18 (fun S_6 v_7 H locs h hG => ?_)
    exact x_ri hM hG hr hlk rfl (k0 _ (Option.some.inj h).symm) dX12_heats_21
  · refine lv_ldcw (v := (-2000000000 : Int32)) hx hb hM.2.2.2.1 (hM.2.2.2.2.1 _ xcn_X12_272) dX12_heats_8 ?_
    exact x_ri hM hG hr hlk rfl (k0 _ (Option.some.inj h).symm) dX12_heats_11
set_option maxHeartbeats 4000000 in
set_option maxRecDepth 100000 in
theorem c_X12_heats {l : Launch} {D : va_G} {cy : Nat → ClassId} {a z : Nat → Nat} (hI : xI xmb a) {S : xSt} {x1 : Int32} {S' : xSt} {v' : Int32} (hf : f_X12_heats S x1 = some (S', v')) (sz : Nat) : Met l yX12_heats (Cond.code yX12_heats cX12_heats 2 (some .int) :: xTB) ({ frames := 6, cells := 0, slots := 0, locals := 135 } : Room) (va_Pc [.ref (a 0), .int x1] (xPre D cy xmb a z S sz)) (xQi D cy xmb a S' v' sz) 0 0 (xA xmb a sz) := by
  refine Met.ofW (cc := cX12_heats) (maxL := 2) (ret := (some .int)) (by decide) rfl ?_
  intro p e s m args below meth c s₁ B hml hv
  obtain ⟨rfl, hsz, hP, hK, hE⟩ := hv
  subst hsz
  have hl := lv_entry ([.ref (a 0), .int x1]) (n := 2) (Nat.le_of_ble_eq_true rfl)
  rw [lg_entry_eq]
  generalize (lg_sl ([.ref (a 0), .int x1]) ++ List.replicate (2 - (lg_sl ([.ref (a 0), .int x1])).length) Slot.unset).toArray = ls at hl ⊢
  have hl : lv_has ls 2 [(0, .ref (a 0)), (1, .int x1)] := hl
  exact w_X12_heats_0 ⟨B.exec, B.bytes, hml, findClass_of_methodNamed B.named, fun w hw => atoms_spec (ws := Cond.code yX12_heats cX12_heats 2 (some .int) :: xTB) B.pre w (List.mem_cons_of_mem _ hw), hK, hI, hE⟩ B.returns B.notSynchronized hf (fun t0 e => e.symm) ⟨hP, va_S.rf⟩ (lv_sub hl [0, 1] rfl)
set_option maxHeartbeats 4000000 in
set_option maxRecDepth 100000 in
theorem w_X12_isThereNow_0 {x1 : Int32} (hM : xM p c cX12_isThereNow m s args RX12 2 D cy xmb a z) (hr : meth.sig.returnType = (some .boolean)) (hlk : meth.locks = false) {S' : xSt} {v' : Int32} {S : xSt} {q : (xSt × Int32)} (h : f_X12_isThereNow_0 x1 S = some q) (k0 : ∀ t0 : xSt × Int32, q = t0 → t0 = (S', v')) {H : Heap} {locs : List Loc} (hG : xG D cy xmb a S s H locs) {ls : Array Slot} (hl : lv_has ls 2 [(0, .ref (a 0)), (1, .int x1)]) : W p l e ({ frames := 0, cells := 0, slots := 0, locals := 0 } : Room) s m args below meth c H locs 0 0 (MQ below (xQi D cy xmb a S' v' s.heap.size) args s 0 0 (xA xmb a s.heap.size)) (F0 m 0 ls []) := by
  have hx := hM.1
  have hb := hM.2.1
  refine lv_iload_n hx hb dX12_isThereNow_0 rfl (lv_at hl 1 rfl) ?_
  refine lv_iconst (v := (5 : Int32)) hx hb dX12_isThereNow_1 (by decide) ?_
  refine x_irem hM h dX12_isThereNow_2 (fun v_1 h => ?_)
  refine lv_aload_n hx hb dX12_isThereNow_3 rfl (lv_at hl 0 rfl) ?_
  refine x_gr (r := 22) hM hG xfl_X12_77 xmt_0 (by decide) rfl dX12_isThereNow_4 ?_
  refine lv_iload_n hx hb dX12_isThereNow_7 rfl (lv_at hl 1 rfl) ?_
  refine lv_iconst (v := (5 : Int32)) hx hb dX12_isThereNow_8 (by decide) ?_
  refine x_idiv hM h dX12_isThereNow_9 (fun v_2 h => ?_)
  refine x_iald hM hG xmt_22 h dX12_isThereNow_10 (fun v_3 h => ?_)
  refine x_icmp_ge (tgt := 18) hM h dX12_isThereNow_11 (by decide) (fun c_4 h => ?_) (fun c_4 h => ?_)
  · refine lv_iconst (v := (0 : Int32)) hx hb dX12_isThereNow_18 (by decide) ?_
    obtain ⟨hz, h⟩ := xgd_at h
    exact x_ri hM hG hr hlk (x_nz hz) (k0 _ (Option.some.inj h).symm) dX12_isThereNow_19
  · refine lv_iconst (v := (1 : Int32)) hx hb dX12_isThereNow_14 (by decide) ?_
    refine lv_goto (tgt := 19) hx hb dX12_isThereNow_15 (by decide) ?_
    obtain ⟨hz, h⟩ := xgd_at h
    exact x_ri hM hG hr hlk (x_nz hz) (k0 _ (Option.some.inj h).symm) dX12_isThereNow_19
set_option maxHeartbeats 4000000 in
set_option maxRecDepth 100000 in
theorem c_X12_isThereNow {l : Launch} {D : va_G} {cy : Nat → ClassId} {a z : Nat → Nat} (hI : xI xmb a) {S : xSt} {x1 : Int32} {S' : xSt} {v' : Int32} (hf : f_X12_isThereNow S x1 = some (S', v')) (sz : Nat) : Met l yX12_isThereNow (Cond.code yX12_isThereNow cX12_isThereNow 2 (some .boolean) :: xTB) ({ frames := 0, cells := 0, slots := 0, locals := 0 } : Room) (va_Pc [.ref (a 0), .int x1] (xPre D cy xmb a z S sz)) (xQi D cy xmb a S' v' sz) 0 0 (xA xmb a sz) := by
  refine Met.ofW (cc := cX12_isThereNow) (maxL := 2) (ret := (some .boolean)) (by decide) rfl ?_
  intro p e s m args below meth c s₁ B hml hv
  obtain ⟨rfl, hsz, hP, hK, hE⟩ := hv
  subst hsz
  have hl := lv_entry ([.ref (a 0), .int x1]) (n := 2) (Nat.le_of_ble_eq_true rfl)
  rw [lg_entry_eq]
  generalize (lg_sl ([.ref (a 0), .int x1]) ++ List.replicate (2 - (lg_sl ([.ref (a 0), .int x1])).length) Slot.unset).toArray = ls at hl ⊢
  have hl : lv_has ls 2 [(0, .ref (a 0)), (1, .int x1)] := hl
  exact w_X12_isThereNow_0 ⟨B.exec, B.bytes, hml, findClass_of_methodNamed B.named, fun w hw => atoms_spec (ws := Cond.code yX12_isThereNow cX12_isThereNow 2 (some .boolean) :: xTB) B.pre w (List.mem_cons_of_mem _ hw), hK, hI, hE⟩ B.returns B.notSynchronized hf (fun t0 e => e.symm) ⟨hP, va_S.rf⟩ (lv_sub hl [0, 1] rfl)
set_option maxHeartbeats 4000000 in
set_option maxRecDepth 100000 in
theorem w_X12_goDay_58 {x1 : Int32} (hM : xM p c cX12_goDay m s args RX12 3 D cy xmb a z) (hr : meth.sig.returnType = none) (hlk : meth.locks = false) {S' : xSt} {v' : Unit} {S : xSt} {q : ((xSt × Int32) ⊕ (xSt × Unit))} (h : f_X12_goDay_58 x1 S = some q) (k0 : ∀ t0 : xSt × Unit, q = (.inr t0) → t0 = (S', v')) (k1 : ∀ (S : xSt) (x1 : Int32), q = (.inl (S, x1)) → ∀ (H : Heap) (locs : List Loc) (ls : Array Slot), xG D cy xmb a S s H locs → lv_has ls 3 [(0, .ref (a 0)), (1, .int x1)] → W p l e ({ frames := 6, cells := 0, slots := 0, locals := 135 } : Room) s m args below meth c H locs 0 0 (MQ below (xQv D cy xmb a S' v' s.heap.size) args s 0 0 (xA xmb a s.heap.size)) (F0 m 2 ls [])) {H : Heap} {locs : List Loc} (hG : xG D cy xmb a S s H locs) {ls : Array Slot} (hl : lv_has ls 3 [(0, .ref (a 0)), (1, .int x1)]) : W p l e ({ frames := 6, cells := 0, slots := 0, locals := 135 } : Room) s m args below meth c H locs 0 0 (MQ below (xQv D cy xmb a S' v' s.heap.size) args s 0 0 (xA xmb a s.heap.size)) (F0 m 58 ls []) := by
  have hx := hM.1
  have hb := hM.2.1
  refine x_iinc hM (fun v => [(1, .int v), (0, .ref (a 0))]) h dX12_goDay_58 hl (k := 1) rfl (by decide) (by decide) (fun _ => rfl) (fun v_1 ls h hl => ?_)
  refine lv_goto (tgt := 2) hx hb dX12_goDay_61 (by decide) ?_
  exact k1 _ _ (Option.some.inj h).symm _ _ _ hG (lv_sub hl [1, 0] rfl)
set_option maxHeartbeats 4000000 in
set_option maxRecDepth 100000 in
theorem w_X12_goDay_57 {x1 : Int32} {y1 : Int32} {y2 : Int32} (hM : xM p c cX12_goDay m s args RX12 3 D cy xmb a z) (hr : meth.sig.returnType = none) (hlk : meth.locks = false) {S' : xSt} {v' : Unit} {S : xSt} {q : ((xSt × Int32) ⊕ (xSt × Unit))} (h : f_X12_goDay_57 x1 y1 y2 S = some q) (k0 : ∀ t0 : xSt × Unit, q = (.inr t0) → t0 = (S', v')) (k1 : ∀ (S : xSt) (x1 : Int32), q = (.inl (S, x1)) → ∀ (H : Heap) (locs : List Loc) (ls : Array Slot), xG D cy xmb a S s H locs → lv_has ls 3 [(0, .ref (a 0)), (1, .int x1)] → W p l e ({ frames := 6, cells := 0, slots := 0, locals := 135 } : Room) s m args below meth c H locs 0 0 (MQ below (xQv D cy xmb a S' v' s.heap.size) args s 0 0 (xA xmb a s.heap.size)) (F0 m 2 ls [])) {H : Heap} {locs : List Loc} (hG : xG D cy xmb a S s H locs) {ls : Array Slot} (hl : lv_has ls 3 [(0, .ref (a 0)), (1, .int x1)]) : W p l e ({ frames := 6, cells := 0, slots := 0, locals := 135 } : Room) s m args below meth c H locs 0 0 (MQ below (xQv D cy xmb a S' v' s.heap.size) args s 0 0 (xA xmb a s.heap.size)) (F0 m 57 ls [.int y2, .int y1, .ref (a 28)]) := by
  have hx := hM.1
  have hb := hM.2.1
  refine x_iast hM hG xmt_28 h dX12_goDay_57 (fun S_1 H locs h hG => ?_)
  exact w_X12_goDay_58 hM hr hlk h (fun t0 e => k0 t0 e) (fun S x1 e => k1 S x1 e) hG (lv_sub hl [0, 1] rfl)
set_option maxHeartbeats 4000000 in
set_option maxRecDepth 100000 in
theorem w_X12_goDay_180 {x1 : Int32} (hM : xM p c cX12_goDay m s args RX12 3 D cy xmb a z) (hr : meth.sig.returnType = none) (hlk : meth.locks = false) {S' : xSt} {v' : Unit} {S : xSt} {q : ((xSt × Int32) ⊕ (xSt × Unit))} (h : f_X12_goDay_180 x1 S = some q) (k0 : ∀ t0 : xSt × Unit, q = (.inr t0) → t0 = (S', v')) (k1 : ∀ (S : xSt) (x1 : Int32), q = (.inl (S, x1)) → ∀ (H : Heap) (locs : List Loc) (ls : Array Slot), xG D cy xmb a S s H locs → lv_has ls 3 [(0, .ref (a 0)), (1, .int x1)] → W p l e ({ frames := 6, cells := 0, slots := 0, locals := 135 } : Room) s m args below meth c H locs 0 0 (MQ below (xQv D cy xmb a S' v' s.heap.size) args s 0 0 (xA xmb a s.heap.size)) (F0 m 66 ls [])) {H : Heap} {locs : List Loc} (hG : xG D cy xmb a S s H locs) {ls : Array Slot} (hl : lv_has ls 3 [(0, .ref (a 0)), (1, .int x1)]) : W p l e ({ frames := 6, cells := 0, slots := 0, locals := 135 } : Room) s m args below meth c H locs 0 0 (MQ below (xQv D cy xmb a S' v' s.heap.size) args s 0 0 (xA xmb a s.heap.size)) (F0 m 180 ls []) := by
  have hx := hM.1
  have hb := hM.2.1
  refine x_iinc hM (fun v => [(1, .int v), (0, .ref (a 0))]) h dX12_goDay_180 hl (k := 1) rfl (by decide) (by decide) (fun _ => rfl) (fun v_1 ls h hl => ?_)
  refine lv_goto (tgt := 66) hx hb dX12_goDay_183 (by decide) ?_
  exact k1 _ _ (Option.some.inj h).symm _ _ _ hG (lv_sub hl [1, 0] rfl)
set_option maxHeartbeats 4000000 in
set_option maxRecDepth 100000 in
theorem w_X12_goDay_150 {x1 : Int32} (hM : xM p c cX12_goDay m s args RX12 3 D cy xmb a z) (hr : meth.sig.returnType = none) (hlk : meth.locks = false) {S' : xSt} {v' : Unit} {S : xSt} {q : ((xSt × Int32) ⊕ (xSt × Unit))} (h : f_X12_goDay_150 x1 S = some q) (k0 : ∀ t0 : xSt × Unit, q = (.inr t0) → t0 = (S', v')) (k1 : ∀ (S : xSt) (x1 : Int32), q = (.inl (S, x1)) → ∀ (H : Heap) (locs : List Loc) (ls : Array Slot), xG D cy xmb a S s H locs → lv_has ls 3 [(0, .ref (a 0)), (1, .int x1)] → W p l e ({ frames := 6, cells := 0, slots := 0, locals := 135 } : Room) s m args below meth c H locs 0 0 (MQ below (xQv D cy xmb a S' v' s.heap.size) args s 0 0 (xA xmb a s.heap.size)) (F0 m 66 ls [])) {H : Heap} {locs : List Loc} (hG : xG D cy xmb a S s H locs) {ls : Array Slot} (hl : lv_has ls 3 [(0, .ref (a 0)), (1, .int x1)]) : W p l e ({ frames := 6, cells := 0, slots := 0, locals := 135 } : Room) s m args below meth c H locs 0 0 (MQ below (xQv D cy xmb a S' v' s.heap.size) args s 0 0 (xA xmb a s.heap.size)) (F0 m 150 ls []) := by
  have hx := hM.1
  have hb := hM.2.1
  refine lv_aload_n hx hb dX12_goDay_150 rfl (lv_at hl 0 rfl) ?_
  refine x_gr (r := 24) hM hG xfl_X12_83 xmt_0 (by decide) rfl dX12_goDay_151 ?_
  refine lv_iload_n hx hb dX12_goDay_154 rfl (lv_at hl 1 rfl) ?_
  refine x_iald hM hG xmt_24 h dX12_goDay_155 (fun v_1 h => ?_)
  refine lv_bipush (v := (50 : Int32)) hx hb dX12_goDay_156 (by decide) ?_
  refine x_icmp_lt (tgt := 180) hM h dX12_goDay_158 (by decide) (fun c_2 h => ?_) (fun c_2 h => ?_)
  · exact w_X12_goDay_180 hM hr hlk h (fun t0 e => k0 t0 e) (fun S x1 e => k1 S x1 e) hG (lv_sub hl [0, 1] rfl)
  · refine lv_aload_n hx hb dX12_goDay_161 rfl (lv_at hl 0 rfl) ?_
    refine x_gr (r := 23) hM hG xfl_X12_80 xmt_0 (by decide) rfl dX12_goDay_162 ?_
    refine lv_iload_n hx hb dX12_goDay_165 rfl (lv_at hl 1 rfl) ?_
    refine x_iald hM hG xmt_23 h dX12_goDay_166 (fun v_3 h => ?_)
    refine x_if_le (tgt := 180) hM h dX12_goDay_167 (by decide) (fun c_4 h => ?_) (fun c_4 h => ?_)
    · exact w_X12_goDay_180 hM hr hlk h (fun t0 e => k0 t0 e) (fun S x1 e => k1 S x1 e) hG (lv_sub hl [0, 1] rfl)
    · refine lv_aload_n hx hb dX12_goDay_170 rfl (lv_at hl 0 rfl) ?_
      refine x_gr (r := 23) hM hG xfl_X12_80 xmt_0 (by decide) rfl dX12_goDay_171 ?_
      refine lv_iload_n hx hb dX12_goDay_174 rfl (lv_at hl 1 rfl) ?_
      refine lv_dup2_11 hx hb dX12_goDay_175 rfl rfl ?_
      refine x_iald hM hG xmt_23 h dX12_goDay_176 (fun v_5 h => ?_)
      refine lv_iconst (v := (1 : Int32)) hx hb dX12_goDay_177 (by decide) ?_
      refine x_isub hM h dX12_goDay_178 (fun v_6 h => ?_)
      refine x_iast hM hG xmt_23 h dX12_goDay_179 (fun S_7 H locs h hG => ?_)
      exact w_X12_goDay_180 hM hr hlk h (fun t0 e => k0 t0 e) (fun S x1 e => k1 S x1 e) hG (lv_sub hl [0, 1] rfl)
set_option maxHeartbeats 4000000 in
set_option maxRecDepth 100000 in
theorem w_X12_goDay_149 {x1 : Int32} {y1 : Int32} {y2 : Int32} (hM : xM p c cX12_goDay m s args RX12 3 D cy xmb a z) (hr : meth.sig.returnType = none) (hlk : meth.locks = false) {S' : xSt} {v' : Unit} {S : xSt} {q : ((xSt × Int32) ⊕ (xSt × Unit))} (h : f_X12_goDay_149 x1 y1 y2 S = some q) (k0 : ∀ t0 : xSt × Unit, q = (.inr t0) → t0 = (S', v')) (k1 : ∀ (S : xSt) (x1 : Int32), q = (.inl (S, x1)) → ∀ (H : Heap) (locs : List Loc) (ls : Array Slot), xG D cy xmb a S s H locs → lv_has ls 3 [(0, .ref (a 0)), (1, .int x1)] → W p l e ({ frames := 6, cells := 0, slots := 0, locals := 135 } : Room) s m args below meth c H locs 0 0 (MQ below (xQv D cy xmb a S' v' s.heap.size) args s 0 0 (xA xmb a s.heap.size)) (F0 m 66 ls [])) {H : Heap} {locs : List Loc} (hG : xG D cy xmb a S s H locs) {ls : Array Slot} (hl : lv_has ls 3 [(0, .ref (a 0)), (1, .int x1)]) : W p l e ({ frames := 6, cells := 0, slots := 0, locals := 135 } : Room) s m args below meth c H locs 0 0 (MQ below (xQv D cy xmb a S' v' s.heap.size) args s 0 0 (xA xmb a s.heap.size)) (F0 m 149 ls [.int y2, .int y1, .ref (a 25)]) := by
  have hx := hM.1
  have hb := hM.2.1
  refine x_iast hM hG xmt_25 h dX12_goDay_149 (fun S_1 H locs h hG => ?_)
  exact w_X12_goDay_150 hM hr hlk h (fun t0 e => k0 t0 e) (fun S x1 e => k1 S x1 e) hG (lv_sub hl [0, 1] rfl)
set_option maxHeartbeats 4000000 in
set_option maxRecDepth 100000 in
theorem w_X12_goDay_66 {x1 : Int32} (hM : xM p c cX12_goDay m s args RX12 3 D cy xmb a z) (hr : meth.sig.returnType = none) (hlk : meth.locks = false) {S' : xSt} {v' : Unit} {S : xSt} {q : ((xSt × Int32) ⊕ (xSt × Unit))} (h : f_X12_goDay_66 S x1 = some q) (k0 : ∀ t0 : xSt × Unit, q = (.inr t0) → t0 = (S', v')) (k1 : ∀ (S : xSt) (x1 : Int32), q = (.inl (S, x1)) → ∀ (H : Heap) (locs : List Loc) (ls : Array Slot), xG D cy xmb a S s H locs → lv_has ls 3 [(0, .ref (a 0)), (1, .int x1)] → W p l e ({ frames := 6, cells := 0, slots := 0, locals := 135 } : Room) s m args below meth c H locs 0 0 (MQ below (xQv D cy xmb a S' v' s.heap.size) args s 0 0 (xA xmb a s.heap.size)) (F0 m 66 ls [])) {H : Heap} {locs : List Loc} (hG : xG D cy xmb a S s H locs) {ls : Array Slot} (hl : lv_has ls 3 [(0, .ref (a 0)), (1, .int x1)]) : W p l e ({ frames := 6, cells := 0, slots := 0, locals := 135 } : Room) s m args below meth c H locs 0 0 (MQ below (xQv D cy xmb a S' v' s.heap.size) args s 0 0 (xA xmb a s.heap.size)) (F0 m 66 ls []) := by
  have hx := hM.1
  have hb := hM.2.1
  refine lv_iload_n hx hb dX12_goDay_66 rfl (lv_at hl 1 rfl) ?_
  refine lv_bipush (v := (30 : Int32)) hx hb dX12_goDay_67 (by decide) ?_
  refine x_icmp_ge (tgt := 186) hM h dX12_goDay_69 (by decide) (fun c_1 h => ?_) (fun c_1 h => ?_)
  · exact x_rv hM hG hr hlk (k0 _ (Option.some.inj h).symm) dX12_goDay_186
  · refine lv_aload_n hx hb dX12_goDay_72 rfl (lv_at hl 0 rfl) ?_
    refine lv_iload_n hx hb dX12_goDay_73 rfl (lv_at hl 1 rfl) ?_
    refine x_cVi (As := [.int x1]) (rest := []) hM hG xml_X12_279 xwi_X12_isThereNow xws_X12_isThereNow xmt_0 (by decide) rfl h (fun S' v e => c_X12_isThereNow hM.2.2.2.2.2.2.1 e _) ⟨Nat.le_of_ble_eq_true rfl, Nat.le_of_ble_eq_true rfl⟩ rfl hl.1 rfl (Nat.le_of_ble_eq_true rfl) dX12_goDay_74 (fun S_2 v_3 H locs h hG => ?_)
    refine x_if_ne (tgt := 83) hM h dX12_goDay_77 (by decide) (fun c_4 h => ?_) (fun c_4 h => ?_)
    · refine lv_aload_n hx hb dX12_goDay_83 rfl (lv_at hl 0 rfl) ?_
      refine x_gr (r := 24) hM hG xfl_X12_83 xmt_0 (by decide) rfl dX12_goDay_84 ?_
      refine lv_iload_n hx hb dX12_goDay_87 rfl (lv_at hl 1 rfl) ?_
      refine lv_aload_n hx hb dX12_goDay_88 rfl (lv_at hl 0 rfl) ?_
      refine x_gr (r := 28) hM hG xfl_X12_95 xmt_0 (by decide) rfl dX12_goDay_89 ?_
      refine lv_iload_n hx hb dX12_goDay_92 rfl (lv_at hl 1 rfl) ?_
      refine x_iald hM hG xmt_28 h dX12_goDay_93 (fun v_5 h => ?_)
      refine x_iast hM hG xmt_24 h dX12_goDay_94 (fun S_6 H locs h hG => ?_)
      refine lv_aload_n hx hb dX12_goDay_95 rfl (lv_at hl 0 rfl) ?_
      refine x_gr (r := 24) hM hG xfl_X12_83 xmt_0 (by decide) rfl dX12_goDay_96 ?_
      refine lv_iload_n hx hb dX12_goDay_99 rfl (lv_at hl 1 rfl) ?_
      refine x_iald hM hG xmt_24 h dX12_goDay_100 (fun v_7 h => ?_)
      refine lv_bipush (v := (40 : Int32)) hx hb dX12_goDay_101 (by decide) ?_
      refine x_icmp_lt (tgt := 150) hM h dX12_goDay_103 (by decide) (fun c_8 h => ?_) (fun c_8 h => ?_)
      · exact w_X12_goDay_150 hM hr hlk h (fun t0 e => k0 t0 e) (fun S x1 e => k1 S x1 e) hG (lv_sub hl [0, 1] rfl)
      · refine lv_aload_n hx hb dX12_goDay_106 rfl (lv_at hl 0 rfl) ?_
        refine x_gr (r := 25) hM hG xfl_X12_86 xmt_0 (by decide) rfl dX12_goDay_107 ?_
        refine lv_iload_n hx hb dX12_goDay_110 rfl (lv_at hl 1 rfl) ?_
        refine lv_aload_n hx hb dX12_goDay_111 rfl (lv_at hl 0 rfl) ?_
        refine x_gr (r := 25) hM hG xfl_X12_86 xmt_0 (by decide) rfl dX12_goDay_112 ?_
        refine lv_iload_n hx hb dX12_goDay_115 rfl (lv_at hl 1 rfl) ?_
        refine x_iald hM hG xmt_25 h dX12_goDay_116 (fun v_9 h => ?_)
        refine lv_aload_n hx hb dX12_goDay_117 rfl (lv_at hl 0 rfl) ?_
        refine x_gr (r := 24) hM hG xfl_X12_83 xmt_0 (by decide) rfl dX12_goDay_118 ?_
        refine lv_iload_n hx hb dX12_goDay_121 rfl (lv_at hl 1 rfl) ?_
        refine x_iald hM hG xmt_24 h dX12_goDay_122 (fun v_10 h => ?_)
        refine lv_bipush (v := (20 : Int32)) hx hb dX12_goDay_123 (by decide) ?_
        refine x_idiv hM h dX12_goDay_125 (fun v_11 h => ?_)
        refine x_icmp_le (tgt := 148) hM h dX12_goDay_126 (by decide) (fun c_12 h => ?_) (fun c_12 h => ?_)
        · refine lv_iconst (v := (0 : Int32)) hx hb dX12_goDay_148 (by decide) ?_
          exact w_X12_goDay_149 hM hr hlk h (fun t0 e => k0 t0 e) (fun S x1 e => k1 S x1 e) hG (lv_sub hl [0, 1] rfl)
        · refine lv_aload_n hx hb dX12_goDay_129 rfl (lv_at hl 0 rfl) ?_
          refine x_gr (r := 25) hM hG xfl_X12_86 xmt_0 (by decide) rfl dX12_goDay_130 ?_
          refine lv_iload_n hx hb dX12_goDay_133 rfl (lv_at hl 1 rfl) ?_
          refine x_iald hM hG xmt_25 h dX12_goDay_134 (fun v_13 h => ?_)
          refine lv_aload_n hx hb dX12_goDay_135 rfl (lv_at hl 0 rfl) ?_
          refine x_gr (r := 24) hM hG xfl_X12_83 xmt_0 (by decide) rfl dX12_goDay_136 ?_
          refine lv_iload_n hx hb dX12_goDay_139 rfl (lv_at hl 1 rfl) ?_
          refine x_iald hM hG xmt_24 h dX12_goDay_140 (fun v_14 h => ?_)
          refine lv_bipush (v := (20 : Int32)) hx hb dX12_goDay_141 (by decide) ?_
          refine x_idiv hM h dX12_goDay_143 (fun v_15 h => ?_)
          refine x_isub hM h dX12_goDay_144 (fun v_16 h => ?_)
          refine lv_goto (tgt := 149) hx hb dX12_goDay_145 (by decide) ?_
          exact w_X12_goDay_149 hM hr hlk h (fun t0 e => k0 t0 e) (fun S x1 e => k1 S x1 e) hG (lv_sub hl [0, 1] rfl)
    · refine lv_goto (tgt := 180) hx hb dX12_goDay_80 (by decide) ?_
      exact w_X12_goDay_180 hM hr hlk h (fun t0 e => k0 t0 e) (fun S x1 e => k1 S x1 e) hG (lv_sub hl [0, 1] rfl)
theorem wl_X12_goDay_66 (hM : xM p c cX12_goDay m s args RX12 3 D cy xmb a z) (hr : meth.sig.returnType = none) (hlk : meth.locks = false) {S' : xSt} {v' : Unit} {q : (xSt × Unit)} (k0 : ∀ t0 : xSt × Unit, q = t0 → t0 = (S', v')) (n : Nat) : ∀ (S : xSt) (x1 : Int32) (H : Heap) (locs : List Loc) (ls : Array Slot), xlp (fun q : (xSt × Int32) => f_X12_goDay_66 q.1 q.2) n (S, x1) = some q → xG D cy xmb a S s H locs → lv_has ls 3 [(0, .ref (a 0)), (1, .int x1)] → W p l e ({ frames := 6, cells := 0, slots := 0, locals := 135 } : Room) s m args below meth c H locs 0 0 (MQ below (xQv D cy xmb a S' v' s.heap.size) args s 0 0 (xA xmb a s.heap.size)) (F0 m 66 ls []) := by
  induction n with
  | zero => intro S x1 H locs ls h; exact (xlp_0 h).elim
  | succ n ih =>
    intro S x1 H locs ls h hG hl
    obtain ⟨q1, hq, hc, he⟩ := xlp_at h
    exact w_X12_goDay_66 hM hr hlk (q := q1) hq (fun t0 e => k0 t0 (he _ e).symm) (fun S x1 e H locs ls hG hl => ih S x1 H locs ls (hc _ e) hG hl) hG hl
set_option maxHeartbeats 4000000 in
set_option maxRecDepth 100000 in
theorem w_X12_goDay_64 (hM : xM p c cX12_goDay m s args RX12 3 D cy xmb a z) (hr : meth.sig.returnType = none) (hlk : meth.locks = false) {S' : xSt} {v' : Unit} {S : xSt} {q : (xSt × Unit)} (h : f_X12_goDay_64 S = some q) (k0 : ∀ t0 : xSt × Unit, q = t0 → t0 = (S', v')) {H : Heap} {locs : List Loc} (hG : xG D cy xmb a S s H locs) {ls : Array Slot} (hl : lv_has ls 3 [(0, .ref (a 0))]) : W p l e ({ frames := 6, cells := 0, slots := 0, locals := 135 } : Room) s m args below meth c H locs 0 0 (MQ below (xQv D cy xmb a S' v' s.heap.size) args s 0 0 (xA xmb a s.heap.size)) (F0 m 64 ls []) := by
  have hx := hM.1
  have hb := hM.2.1
  refine lv_iconst (v := (0 : Int32)) hx hb dX12_goDay_64 (by decide) ?_
  refine lv_istore_n (lv' := [(1, .int (0 : Int32)), (0, .ref (a 0))]) hx hb dX12_goDay_65 rfl hl (by decide) rfl (fun ls hl => ?_)
  exact wl_X12_goDay_66 hM hr hlk (fun t0 e => k0 t0 e) 5000 _ _ _ _ _ h hG (lv_sub hl [1, 0] rfl)
set_option maxHeartbeats 4000000 in
set_option maxRecDepth 100000 in
theorem w_X12_goDay_2 {x1 : Int32} (hM : xM p c cX12_goDay m s args RX12 3 D cy xmb a z) (hr : meth.sig.returnType = none) (hlk : meth.locks = false) {S' : xSt} {v' : Unit} {S : xSt} {q : ((xSt × Int32) ⊕ (xSt × Unit))} (h : f_X12_goDay_2 S x1 = some q) (k0 : ∀ t0 : xSt × Unit, q = (.inr t0) → t0 = (S', v')) (k1 : ∀ (S : xSt) (x1 : Int32), q = (.inl (S, x1)) → ∀ (H : Heap) (locs : List Loc) (ls : Array Slot), xG D cy xmb a S s H locs → lv_has ls 3 [(0, .ref (a 0)), (1, .int x1)] → W p l e ({ frames := 6, cells := 0, slots := 0, locals := 135 } : Room) s m args below meth c H locs 0 0 (MQ below (xQv D cy xmb a S' v' s.heap.size) args s 0 0 (xA xmb a s.heap.size)) (F0 m 2 ls [])) {H : Heap} {locs : List Loc} (hG : xG D cy xmb a S s H locs) {ls : Array Slot} (hl : lv_has ls 3 [(0, .ref (a 0)), (1, .int x1)]) : W p l e ({ frames := 6, cells := 0, slots := 0, locals := 135 } : Room) s m args below meth c H locs 0 0 (MQ below (xQv D cy xmb a S' v' s.heap.size) args s 0 0 (xA xmb a s.heap.size)) (F0 m 2 ls []) := by
  have hx := hM.1
  have hb := hM.2.1
  refine lv_iload_n hx hb dX12_goDay_2 rfl (lv_at hl 1 rfl) ?_
  refine lv_bipush (v := (30 : Int32)) hx hb dX12_goDay_3 (by decide) ?_
  refine x_icmp_ge (tgt := 64) hM h dX12_goDay_5 (by decide) (fun c_1 h => ?_) (fun c_1 h => ?_)
  · obtain ⟨q1, h, e1⟩ := xmr_at h
    exact w_X12_goDay_64 hM hr hlk h (fun t0 e => k0 t0 (by rw [e1, e])) hG (lv_sub hl [0] rfl)
  · refine lv_aload_n hx hb dX12_goDay_8 rfl (lv_at hl 0 rfl) ?_
    refine lv_iload_n hx hb dX12_goDay_9 rfl (lv_at hl 1 rfl) ?_
    refine x_cVi (As := [.int x1]) (rest := []) hM hG xml_X12_279 xwi_X12_isThereNow xws_X12_isThereNow xmt_0 (by decide) rfl h (fun S' v e => c_X12_isThereNow hM.2.2.2.2.2.2.1 e _) ⟨Nat.le_of_ble_eq_true rfl, Nat.le_of_ble_eq_true rfl⟩ rfl hl.1 rfl (Nat.le_of_ble_eq_true rfl) dX12_goDay_10 (fun S_2 v_3 H locs h hG => ?_)
    refine x_if_ne (tgt := 19) hM h dX12_goDay_13 (by decide) (fun c_4 h => ?_) (fun c_4 h => ?_)
    · refine lv_aload_n hx hb dX12_goDay_19 rfl (lv_at hl 0 rfl) ?_
      refine x_gr (r := 24) hM hG xfl_X12_83 xmt_0 (by decide) rfl dX12_goDay_20 ?_
      refine lv_iload_n hx hb dX12_goDay_23 rfl (lv_at hl 1 rfl) ?_
      refine x_iald hM hG xmt_24 h dX12_goDay_24 (fun v_5 h => ?_)
      refine lv_aload_n hx hb dX12_goDay_25 rfl (lv_at hl 0 rfl) ?_
      refine lv_iload_n hx hb dX12_goDay_26 rfl (lv_at hl 1 rfl) ?_
      refine x_cVi (As := [.int x1]) (rest := [.int v_5]) hM hG xml_X12_276 xwi_X12_heatsBy xws_X12_heatsBy xmt_0 (by decide) rfl h (fun S' v e => c_X12_heatsBy hM.2.2.2.2.2.2.1 e _) ⟨Nat.le_of_ble_eq_true rfl, Nat.le_of_ble_eq_true rfl⟩ rfl hl.1 rfl (Nat.le_of_ble_eq_true rfl) dX12_goDay_27 (fun S_6 v_7 H locs h hG => ?_)
      refine x_iadd hM h dX12_goDay_30 (fun v_8 h => ?_)
      refine lv_istore_n (lv' := [(2, .int v_8), (0, .ref (a 0)), (1, .int x1)]) hx hb dX12_goDay_31 rfl hl (by decide) rfl (fun ls hl => ?_)
      refine lv_aload_n hx hb dX12_goDay_32 rfl (lv_at hl 1 rfl) ?_
      refine x_gr (r := 28) hM hG xfl_X12_95 xmt_0 (by decide) rfl dX12_goDay_33 ?_
      refine lv_iload_n hx hb dX12_goDay_36 rfl (lv_at hl 2 rfl) ?_
      refine lv_iload_n hx hb dX12_goDay_37 rfl (lv_at hl 0 rfl) ?_
      refine x_if_ge (tgt := 45) hM h dX12_goDay_38 (by decide) (fun c_9 h => ?_) (fun c_9 h => ?_)
      · refine lv_iload_n hx hb dX12_goDay_45 rfl (lv_at hl 0 rfl) ?_
        refine lv_bipush (v := (99 : Int32)) hx hb dX12_goDay_46 (by decide) ?_
        refine x_icmp_le (tgt := 56) hM h dX12_goDay_48 (by decide) (fun c_10 h => ?_) (fun c_10 h => ?_)
        · refine lv_iload_n hx hb dX12_goDay_56 rfl (lv_at hl 0 rfl) ?_
          exact w_X12_goDay_57 hM hr hlk h (fun t0 e => k0 t0 e) (fun S x1 e => k1 S x1 e) hG (lv_sub hl [1, 2] rfl)
        · refine lv_bipush (v := (99 : Int32)) hx hb dX12_goDay_51 (by decide) ?_
          refine lv_goto (tgt := 57) hx hb dX12_goDay_53 (by decide) ?_
          exact w_X12_goDay_57 hM hr hlk h (fun t0 e => k0 t0 e) (fun S x1 e => k1 S x1 e) hG (lv_sub hl [1, 2] rfl)
      · refine lv_iconst (v := (0 : Int32)) hx hb dX12_goDay_41 (by decide) ?_
        refine lv_goto (tgt := 57) hx hb dX12_goDay_42 (by decide) ?_
        exact w_X12_goDay_57 hM hr hlk h (fun t0 e => k0 t0 e) (fun S x1 e => k1 S x1 e) hG (lv_sub hl [1, 2] rfl)
    · refine lv_goto (tgt := 58) hx hb dX12_goDay_16 (by decide) ?_
      exact w_X12_goDay_58 hM hr hlk h (fun t0 e => k0 t0 e) (fun S x1 e => k1 S x1 e) hG (lv_sub hl [0, 1] rfl)
theorem wl_X12_goDay_2 (hM : xM p c cX12_goDay m s args RX12 3 D cy xmb a z) (hr : meth.sig.returnType = none) (hlk : meth.locks = false) {S' : xSt} {v' : Unit} {q : (xSt × Unit)} (k0 : ∀ t0 : xSt × Unit, q = t0 → t0 = (S', v')) (n : Nat) : ∀ (S : xSt) (x1 : Int32) (H : Heap) (locs : List Loc) (ls : Array Slot), xlp (fun q : (xSt × Int32) => f_X12_goDay_2 q.1 q.2) n (S, x1) = some q → xG D cy xmb a S s H locs → lv_has ls 3 [(0, .ref (a 0)), (1, .int x1)] → W p l e ({ frames := 6, cells := 0, slots := 0, locals := 135 } : Room) s m args below meth c H locs 0 0 (MQ below (xQv D cy xmb a S' v' s.heap.size) args s 0 0 (xA xmb a s.heap.size)) (F0 m 2 ls []) := by
  induction n with
  | zero => intro S x1 H locs ls h; exact (xlp_0 h).elim
  | succ n ih =>
    intro S x1 H locs ls h hG hl
    obtain ⟨q1, hq, hc, he⟩ := xlp_at h
    exact w_X12_goDay_2 hM hr hlk (q := q1) hq (fun t0 e => k0 t0 (he _ e).symm) (fun S x1 e H locs ls hG hl => ih S x1 H locs ls (hc _ e) hG hl) hG hl
set_option maxHeartbeats 4000000 in
set_option maxRecDepth 100000 in
theorem w_X12_goDay_0 (hM : xM p c cX12_goDay m s args RX12 3 D cy xmb a z) (hr : meth.sig.returnType = none) (hlk : meth.locks = false) {S' : xSt} {v' : Unit} {S : xSt} {q : (xSt × Unit)} (h : f_X12_goDay_0 S = some q) (k0 : ∀ t0 : xSt × Unit, q = t0 → t0 = (S', v')) {H : Heap} {locs : List Loc} (hG : xG D cy xmb a S s H locs) {ls : Array Slot} (hl : lv_has ls 3 [(0, .ref (a 0))]) : W p l e ({ frames := 6, cells := 0, slots := 0, locals := 135 } : Room) s m args below meth c H locs 0 0 (MQ below (xQv D cy xmb a S' v' s.heap.size) args s 0 0 (xA xmb a s.heap.size)) (F0 m 0 ls []) := by
  have hx := hM.1
  have hb := hM.2.1
  refine lv_iconst (v := (0 : Int32)) hx hb dX12_goDay_0 (by decide) ?_
  refine lv_istore_n (lv' := [(1, .int (0 : Int32)), (0, .ref (a 0))]) hx hb dX12_goDay_1 rfl hl (by decide) rfl (fun ls hl => ?_)
  exact wl_X12_goDay_2 hM hr hlk (fun t0 e => k0 t0 e) 5000 _ _ _ _ _ h hG (lv_sub hl [1, 0] rfl)
set_option maxHeartbeats 4000000 in
set_option maxRecDepth 100000 in
theorem c_X12_goDay {l : Launch} {D : va_G} {cy : Nat → ClassId} {a z : Nat → Nat} (hI : xI xmb a) {S : xSt} {S' : xSt} {v' : Unit} (hf : f_X12_goDay S = some (S', v')) (sz : Nat) : Met l yX12_goDay (Cond.code yX12_goDay cX12_goDay 3 none :: xTB) ({ frames := 6, cells := 0, slots := 0, locals := 135 } : Room) (va_Pc [.ref (a 0)] (xPre D cy xmb a z S sz)) (xQv D cy xmb a S' v' sz) 0 0 (xA xmb a sz) := by
  refine Met.ofW (cc := cX12_goDay) (maxL := 3) (ret := none) (by decide) rfl ?_
  intro p e s m args below meth c s₁ B hml hv
  obtain ⟨rfl, hsz, hP, hK, hE⟩ := hv
  subst hsz
  have hl := lv_entry ([.ref (a 0)]) (n := 3) (Nat.le_of_ble_eq_true rfl)
  rw [lg_entry_eq]
  generalize (lg_sl ([.ref (a 0)]) ++ List.replicate (3 - (lg_sl ([.ref (a 0)])).length) Slot.unset).toArray = ls at hl ⊢
  have hl : lv_has ls 3 [(0, .ref (a 0))] := hl
  exact w_X12_goDay_0 ⟨B.exec, B.bytes, hml, findClass_of_methodNamed B.named, fun w hw => atoms_spec (ws := Cond.code yX12_goDay cX12_goDay 3 none :: xTB) B.pre w (List.mem_cons_of_mem _ hw), hK, hI, hE⟩ B.returns B.notSynchronized hf (fun t0 e => e.symm) ⟨hP, va_S.rf⟩ (lv_sub hl [0] rfl)
set_option maxHeartbeats 4000000 in
set_option maxRecDepth 100000 in
theorem w_X12_goDays_2 {x1 : Int32} {x2 : Int32} (hM : xM p c cX12_goDays m s args RX12 3 D cy xmb a z) (hr : meth.sig.returnType = none) (hlk : meth.locks = false) {S' : xSt} {v' : Unit} {S : xSt} {q : ((xSt × Int32) ⊕ (xSt × Unit))} (h : f_X12_goDays_2 x1 S x2 = some q) (k0 : ∀ t0 : xSt × Unit, q = (.inr t0) → t0 = (S', v')) (k1 : ∀ (S : xSt) (x2 : Int32), q = (.inl (S, x2)) → ∀ (H : Heap) (locs : List Loc) (ls : Array Slot), xG D cy xmb a S s H locs → lv_has ls 3 [(0, .ref (a 0)), (1, .int x1), (2, .int x2)] → W p l e ({ frames := 7, cells := 0, slots := 0, locals := 157 } : Room) s m args below meth c H locs 0 0 (MQ below (xQv D cy xmb a S' v' s.heap.size) args s 0 0 (xA xmb a s.heap.size)) (F0 m 2 ls [])) {H : Heap} {locs : List Loc} (hG : xG D cy xmb a S s H locs) {ls : Array Slot} (hl : lv_has ls 3 [(0, .ref (a 0)), (1, .int x1), (2, .int x2)]) : W p l e ({ frames := 7, cells := 0, slots := 0, locals := 157 } : Room) s m args below meth c H locs 0 0 (MQ below (xQv D cy xmb a S' v' s.heap.size) args s 0 0 (xA xmb a s.heap.size)) (F0 m 2 ls []) := by
  have hx := hM.1
  have hb := hM.2.1
  refine lv_iload_n hx hb dX12_goDays_2 rfl (lv_at hl 2 rfl) ?_
  refine lv_iload_n hx hb dX12_goDays_3 rfl (lv_at hl 1 rfl) ?_
  refine x_icmp_ge (tgt := 17) hM h dX12_goDays_4 (by decide) (fun c_1 h => ?_) (fun c_1 h => ?_)
  · exact x_rv hM hG hr hlk (k0 _ (Option.some.inj h).symm) dX12_goDays_17
  · refine lv_aload_n hx hb dX12_goDays_7 rfl (lv_at hl 0 rfl) ?_
    refine x_cVv (As := []) (rest := []) hM hG xml_X12_282 xwi_X12_goDay xws_X12_goDay xmt_0 (by decide) rfl h (fun S' v e => c_X12_goDay hM.2.2.2.2.2.2.1 e _) ⟨Nat.le_of_ble_eq_true rfl, Nat.le_of_ble_eq_true rfl⟩ rfl hl.1 rfl (Nat.le_of_ble_eq_true rfl) dX12_goDays_8 (fun S_2 v_3 H locs h hG => ?_)
    refine x_iinc hM (fun v => [(2, .int v), (0, .ref (a 0)), (1, .int x1)]) h dX12_goDays_11 hl (k := 2) rfl (by decide) (by decide) (fun _ => rfl) (fun v_4 ls h hl => ?_)
    refine lv_goto (tgt := 2) hx hb dX12_goDays_14 (by decide) ?_
    exact k1 _ _ (Option.some.inj h).symm _ _ _ hG (lv_sub hl [1, 2, 0] rfl)
theorem wl_X12_goDays_2 {x1 : Int32} (hM : xM p c cX12_goDays m s args RX12 3 D cy xmb a z) (hr : meth.sig.returnType = none) (hlk : meth.locks = false) {S' : xSt} {v' : Unit} {q : (xSt × Unit)} (k0 : ∀ t0 : xSt × Unit, q = t0 → t0 = (S', v')) (n : Nat) : ∀ (S : xSt) (x2 : Int32) (H : Heap) (locs : List Loc) (ls : Array Slot), xlp (fun q : (xSt × Int32) => f_X12_goDays_2 x1 q.1 q.2) n (S, x2) = some q → xG D cy xmb a S s H locs → lv_has ls 3 [(0, .ref (a 0)), (1, .int x1), (2, .int x2)] → W p l e ({ frames := 7, cells := 0, slots := 0, locals := 157 } : Room) s m args below meth c H locs 0 0 (MQ below (xQv D cy xmb a S' v' s.heap.size) args s 0 0 (xA xmb a s.heap.size)) (F0 m 2 ls []) := by
  induction n with
  | zero => intro S x2 H locs ls h; exact (xlp_0 h).elim
  | succ n ih =>
    intro S x2 H locs ls h hG hl
    obtain ⟨q1, hq, hc, he⟩ := xlp_at h
    exact w_X12_goDays_2 hM hr hlk (q := q1) hq (fun t0 e => k0 t0 (he _ e).symm) (fun S x2 e H locs ls hG hl => ih S x2 H locs ls (hc _ e) hG hl) hG hl
set_option maxHeartbeats 4000000 in
set_option maxRecDepth 100000 in
theorem w_X12_goDays_0 {x1 : Int32} (hM : xM p c cX12_goDays m s args RX12 3 D cy xmb a z) (hr : meth.sig.returnType = none) (hlk : meth.locks = false) {S' : xSt} {v' : Unit} {S : xSt} {q : (xSt × Unit)} (h : f_X12_goDays_0 x1 S = some q) (k0 : ∀ t0 : xSt × Unit, q = t0 → t0 = (S', v')) {H : Heap} {locs : List Loc} (hG : xG D cy xmb a S s H locs) {ls : Array Slot} (hl : lv_has ls 3 [(0, .ref (a 0)), (1, .int x1)]) : W p l e ({ frames := 7, cells := 0, slots := 0, locals := 157 } : Room) s m args below meth c H locs 0 0 (MQ below (xQv D cy xmb a S' v' s.heap.size) args s 0 0 (xA xmb a s.heap.size)) (F0 m 0 ls []) := by
  have hx := hM.1
  have hb := hM.2.1
  refine lv_iconst (v := (0 : Int32)) hx hb dX12_goDays_0 (by decide) ?_
  refine lv_istore_n (lv' := [(2, .int (0 : Int32)), (0, .ref (a 0)), (1, .int x1)]) hx hb dX12_goDays_1 rfl hl (by decide) rfl (fun ls hl => ?_)
  exact wl_X12_goDays_2 hM hr hlk (fun t0 e => k0 t0 e) 5000 _ _ _ _ _ h hG (lv_sub hl [1, 2, 0] rfl)
set_option maxHeartbeats 4000000 in
set_option maxRecDepth 100000 in
theorem c_X12_goDays {l : Launch} {D : va_G} {cy : Nat → ClassId} {a z : Nat → Nat} (hI : xI xmb a) {S : xSt} {x1 : Int32} {S' : xSt} {v' : Unit} (hf : f_X12_goDays S x1 = some (S', v')) (sz : Nat) : Met l yX12_goDays (Cond.code yX12_goDays cX12_goDays 3 none :: xTB) ({ frames := 7, cells := 0, slots := 0, locals := 157 } : Room) (va_Pc [.ref (a 0), .int x1] (xPre D cy xmb a z S sz)) (xQv D cy xmb a S' v' sz) 0 0 (xA xmb a sz) := by
  refine Met.ofW (cc := cX12_goDays) (maxL := 3) (ret := none) (by decide) rfl ?_
  intro p e s m args below meth c s₁ B hml hv
  obtain ⟨rfl, hsz, hP, hK, hE⟩ := hv
  subst hsz
  have hl := lv_entry ([.ref (a 0), .int x1]) (n := 3) (Nat.le_of_ble_eq_true rfl)
  rw [lg_entry_eq]
  generalize (lg_sl ([.ref (a 0), .int x1]) ++ List.replicate (3 - (lg_sl ([.ref (a 0), .int x1])).length) Slot.unset).toArray = ls at hl ⊢
  have hl : lv_has ls 3 [(0, .ref (a 0)), (1, .int x1)] := hl
  exact w_X12_goDays_0 ⟨B.exec, B.bytes, hml, findClass_of_methodNamed B.named, fun w hw => atoms_spec (ws := Cond.code yX12_goDays cX12_goDays 3 none :: xTB) B.pre w (List.mem_cons_of_mem _ hw), hK, hI, hE⟩ B.returns B.notSynchronized hf (fun t0 e => e.symm) ⟨hP, va_S.rf⟩ (lv_sub hl [0, 1] rfl)
set_option maxHeartbeats 4000000 in
set_option maxRecDepth 100000 in
theorem w_X12_hottest_40 {x1 : Int32} {x2 : Int32} (hM : xM p c cX12_hottest m s args RX12 3 D cy xmb a z) (hr : meth.sig.returnType = (some .int)) (hlk : meth.locks = false) {S' : xSt} {v' : Int32} {S : xSt} {q : ((xSt × Int32 × Int32) ⊕ (xSt × Int32))} (h : f_X12_hottest_40 x1 x2 S = some q) (k0 : ∀ t0 : xSt × Int32, q = (.inr t0) → t0 = (S', v')) (k1 : ∀ (S : xSt) (x1 : Int32) (x2 : Int32), q = (.inl (S, x1, x2)) → ∀ (H : Heap) (locs : List Loc) (ls : Array Slot), xG D cy xmb a S s H locs → lv_has ls 3 [(0, .ref (a 0)), (1, .int x1), (2, .int x2)] → W p l e ({ frames := 1, cells := 0, slots := 0, locals := 21 } : Room) s m args below meth c H locs 0 0 (MQ below (xQi D cy xmb a S' v' s.heap.size) args s 0 0 (xA xmb a s.heap.size)) (F0 m 5 ls [])) {H : Heap} {locs : List Loc} (hG : xG D cy xmb a S s H locs) {ls : Array Slot} (hl : lv_has ls 3 [(0, .ref (a 0)), (1, .int x1), (2, .int x2)]) : W p l e ({ frames := 1, cells := 0, slots := 0, locals := 21 } : Room) s m args below meth c H locs 0 0 (MQ below (xQi D cy xmb a S' v' s.heap.size) args s 0 0 (xA xmb a s.heap.size)) (F0 m 40 ls []) := by
  have hx := hM.1
  have hb := hM.2.1
  refine x_iinc hM (fun v => [(2, .int v), (0, .ref (a 0)), (1, .int x1)]) h dX12_hottest_40 hl (k := 2) rfl (by decide) (by decide) (fun _ => rfl) (fun v_1 ls h hl => ?_)
  refine lv_goto (tgt := 5) hx hb dX12_hottest_43 (by decide) ?_
  exact k1 _ _ _ (Option.some.inj h).symm _ _ _ hG (lv_sub hl [1, 2, 0] rfl)
set_option maxHeartbeats 4000000 in
set_option maxRecDepth 100000 in
theorem w_X12_hottest_38 {x2 : Int32} (hM : xM p c cX12_hottest m s args RX12 3 D cy xmb a z) (hr : meth.sig.returnType = (some .int)) (hlk : meth.locks = false) {S' : xSt} {v' : Int32} {S : xSt} {q : ((xSt × Int32 × Int32) ⊕ (xSt × Int32))} (h : f_X12_hottest_38 x2 S = some q) (k0 : ∀ t0 : xSt × Int32, q = (.inr t0) → t0 = (S', v')) (k1 : ∀ (S : xSt) (x1 : Int32) (x2 : Int32), q = (.inl (S, x1, x2)) → ∀ (H : Heap) (locs : List Loc) (ls : Array Slot), xG D cy xmb a S s H locs → lv_has ls 3 [(0, .ref (a 0)), (1, .int x1), (2, .int x2)] → W p l e ({ frames := 1, cells := 0, slots := 0, locals := 21 } : Room) s m args below meth c H locs 0 0 (MQ below (xQi D cy xmb a S' v' s.heap.size) args s 0 0 (xA xmb a s.heap.size)) (F0 m 5 ls [])) {H : Heap} {locs : List Loc} (hG : xG D cy xmb a S s H locs) {ls : Array Slot} (hl : lv_has ls 3 [(0, .ref (a 0)), (2, .int x2)]) : W p l e ({ frames := 1, cells := 0, slots := 0, locals := 21 } : Room) s m args below meth c H locs 0 0 (MQ below (xQi D cy xmb a S' v' s.heap.size) args s 0 0 (xA xmb a s.heap.size)) (F0 m 38 ls []) := by
  have hx := hM.1
  have hb := hM.2.1
  refine lv_iload_n hx hb dX12_hottest_38 rfl (lv_at hl 1 rfl) ?_
  refine lv_istore_n (lv' := [(1, .int x2), (0, .ref (a 0)), (2, .int x2)]) hx hb dX12_hottest_39 rfl hl (by decide) rfl (fun ls hl => ?_)
  exact w_X12_hottest_40 hM hr hlk h (fun t0 e => k0 t0 e) (fun S x1 x2 e => k1 S x1 x2 e) hG (lv_sub hl [1, 0, 2] rfl)
set_option maxHeartbeats 4000000 in
set_option maxRecDepth 100000 in
theorem w_X12_hottest_5 {x1 : Int32} {x2 : Int32} (hM : xM p c cX12_hottest m s args RX12 3 D cy xmb a z) (hr : meth.sig.returnType = (some .int)) (hlk : meth.locks = false) {S' : xSt} {v' : Int32} {S : xSt} {q : ((xSt × Int32 × Int32) ⊕ (xSt × Int32))} (h : f_X12_hottest_5 S x1 x2 = some q) (k0 : ∀ t0 : xSt × Int32, q = (.inr t0) → t0 = (S', v')) (k1 : ∀ (S : xSt) (x1 : Int32) (x2 : Int32), q = (.inl (S, x1, x2)) → ∀ (H : Heap) (locs : List Loc) (ls : Array Slot), xG D cy xmb a S s H locs → lv_has ls 3 [(0, .ref (a 0)), (1, .int x1), (2, .int x2)] → W p l e ({ frames := 1, cells := 0, slots := 0, locals := 21 } : Room) s m args below meth c H locs 0 0 (MQ below (xQi D cy xmb a S' v' s.heap.size) args s 0 0 (xA xmb a s.heap.size)) (F0 m 5 ls [])) {H : Heap} {locs : List Loc} (hG : xG D cy xmb a S s H locs) {ls : Array Slot} (hl : lv_has ls 3 [(0, .ref (a 0)), (1, .int x1), (2, .int x2)]) : W p l e ({ frames := 1, cells := 0, slots := 0, locals := 21 } : Room) s m args below meth c H locs 0 0 (MQ below (xQi D cy xmb a S' v' s.heap.size) args s 0 0 (xA xmb a s.heap.size)) (F0 m 5 ls []) := by
  have hx := hM.1
  have hb := hM.2.1
  refine lv_iload_n hx hb dX12_hottest_5 rfl (lv_at hl 2 rfl) ?_
  refine lv_bipush (v := (30 : Int32)) hx hb dX12_hottest_6 (by decide) ?_
  refine x_icmp_ge (tgt := 46) hM h dX12_hottest_8 (by decide) (fun c_1 h => ?_) (fun c_1 h => ?_)
  · refine lv_iload_n hx hb dX12_hottest_46 rfl (lv_at hl 1 rfl) ?_
    exact x_ri hM hG hr hlk rfl (k0 _ (Option.some.inj h).symm) dX12_hottest_47
  · refine lv_aload_n hx hb dX12_hottest_11 rfl (lv_at hl 0 rfl) ?_
    refine lv_iload_n hx hb dX12_hottest_12 rfl (lv_at hl 2 rfl) ?_
    refine x_cVi (As := [.int x2]) (rest := []) hM hG xml_X12_279 xwi_X12_isThereNow xws_X12_isThereNow xmt_0 (by decide) rfl h (fun S' v e => c_X12_isThereNow hM.2.2.2.2.2.2.1 e _) ⟨Nat.le_of_ble_eq_true rfl, Nat.le_of_ble_eq_true rfl⟩ rfl hl.1 rfl (Nat.le_of_ble_eq_true rfl) dX12_hottest_13 (fun S_2 v_3 H locs h hG => ?_)
    refine x_if_eq (tgt := 40) hM h dX12_hottest_16 (by decide) (fun c_4 h => ?_) (fun c_4 h => ?_)
    · exact w_X12_hottest_40 hM hr hlk h (fun t0 e => k0 t0 e) (fun S x1 x2 e => k1 S x1 x2 e) hG (lv_sub hl [0, 1, 2] rfl)
    · refine lv_iload_n hx hb dX12_hottest_19 rfl (lv_at hl 1 rfl) ?_
      refine x_if_lt (tgt := 38) hM h dX12_hottest_20 (by decide) (fun c_5 h => ?_) (fun c_5 h => ?_)
      · exact w_X12_hottest_38 hM hr hlk h (fun t0 e => k0 t0 e) (fun S x1 x2 e => k1 S x1 x2 e) hG (lv_sub hl [0, 2] rfl)
      · refine lv_aload_n hx hb dX12_hottest_23 rfl (lv_at hl 0 rfl) ?_
        refine x_gr (r := 24) hM hG xfl_X12_83 xmt_0 (by decide) rfl dX12_hottest_24 ?_
        refine lv_iload_n hx hb dX12_hottest_27 rfl (lv_at hl 2 rfl) ?_
        refine x_iald hM hG xmt_24 h dX12_hottest_28 (fun v_6 h => ?_)
        refine lv_aload_n hx hb dX12_hottest_29 rfl (lv_at hl 0 rfl) ?_
        refine x_gr (r := 24) hM hG xfl_X12_83 xmt_0 (by decide) rfl dX12_hottest_30 ?_
        refine lv_iload_n hx hb dX12_hottest_33 rfl (lv_at hl 1 rfl) ?_
        refine x_iald hM hG xmt_24 h dX12_hottest_34 (fun v_7 h => ?_)
        refine x_icmp_le (tgt := 40) hM h dX12_hottest_35 (by decide) (fun c_8 h => ?_) (fun c_8 h => ?_)
        · exact w_X12_hottest_40 hM hr hlk h (fun t0 e => k0 t0 e) (fun S x1 x2 e => k1 S x1 x2 e) hG (lv_sub hl [0, 1, 2] rfl)
        · exact w_X12_hottest_38 hM hr hlk h (fun t0 e => k0 t0 e) (fun S x1 x2 e => k1 S x1 x2 e) hG (lv_sub hl [0, 2] rfl)
theorem wl_X12_hottest_5 (hM : xM p c cX12_hottest m s args RX12 3 D cy xmb a z) (hr : meth.sig.returnType = (some .int)) (hlk : meth.locks = false) {S' : xSt} {v' : Int32} {q : (xSt × Int32)} (k0 : ∀ t0 : xSt × Int32, q = t0 → t0 = (S', v')) (n : Nat) : ∀ (S : xSt) (x1 : Int32) (x2 : Int32) (H : Heap) (locs : List Loc) (ls : Array Slot), xlp (fun q : (xSt × Int32 × Int32) => f_X12_hottest_5 q.1 q.2.1 q.2.2) n (S, x1, x2) = some q → xG D cy xmb a S s H locs → lv_has ls 3 [(0, .ref (a 0)), (1, .int x1), (2, .int x2)] → W p l e ({ frames := 1, cells := 0, slots := 0, locals := 21 } : Room) s m args below meth c H locs 0 0 (MQ below (xQi D cy xmb a S' v' s.heap.size) args s 0 0 (xA xmb a s.heap.size)) (F0 m 5 ls []) := by
  induction n with
  | zero => intro S x1 x2 H locs ls h; exact (xlp_0 h).elim
  | succ n ih =>
    intro S x1 x2 H locs ls h hG hl
    obtain ⟨q1, hq, hc, he⟩ := xlp_at h
    exact w_X12_hottest_5 hM hr hlk (q := q1) hq (fun t0 e => k0 t0 (he _ e).symm) (fun S x1 x2 e H locs ls hG hl => ih S x1 x2 H locs ls (hc _ e) hG hl) hG hl
set_option maxHeartbeats 4000000 in
set_option maxRecDepth 100000 in
theorem w_X12_hottest_0 (hM : xM p c cX12_hottest m s args RX12 3 D cy xmb a z) (hr : meth.sig.returnType = (some .int)) (hlk : meth.locks = false) {S' : xSt} {v' : Int32} {S : xSt} {q : (xSt × Int32)} (h : f_X12_hottest_0 S = some q) (k0 : ∀ t0 : xSt × Int32, q = t0 → t0 = (S', v')) {H : Heap} {locs : List Loc} (hG : xG D cy xmb a S s H locs) {ls : Array Slot} (hl : lv_has ls 3 [(0, .ref (a 0))]) : W p l e ({ frames := 1, cells := 0, slots := 0, locals := 21 } : Room) s m args below meth c H locs 0 0 (MQ below (xQi D cy xmb a S' v' s.heap.size) args s 0 0 (xA xmb a s.heap.size)) (F0 m 0 ls []) := by
  have hx := hM.1
  have hb := hM.2.1
  refine lv_bipush (v := (-2 : Int32)) hx hb dX12_hottest_0 (by decide) ?_
  refine lv_istore_n (lv' := [(1, .int (-2 : Int32)), (0, .ref (a 0))]) hx hb dX12_hottest_2 rfl hl (by decide) rfl (fun ls hl => ?_)
  refine lv_iconst (v := (0 : Int32)) hx hb dX12_hottest_3 (by decide) ?_
  refine lv_istore_n (lv' := [(2, .int (0 : Int32)), (1, .int (-2 : Int32)), (0, .ref (a 0))]) hx hb dX12_hottest_4 rfl hl (by decide) rfl (fun ls hl => ?_)
  exact wl_X12_hottest_5 hM hr hlk (fun t0 e => k0 t0 e) 5000 _ _ _ _ _ _ h hG (lv_sub hl [2, 1, 0] rfl)
set_option maxHeartbeats 4000000 in
set_option maxRecDepth 100000 in
theorem c_X12_hottest {l : Launch} {D : va_G} {cy : Nat → ClassId} {a z : Nat → Nat} (hI : xI xmb a) {S : xSt} {S' : xSt} {v' : Int32} (hf : f_X12_hottest S = some (S', v')) (sz : Nat) : Met l yX12_hottest (Cond.code yX12_hottest cX12_hottest 3 (some .int) :: xTB) ({ frames := 1, cells := 0, slots := 0, locals := 21 } : Room) (va_Pc [.ref (a 0)] (xPre D cy xmb a z S sz)) (xQi D cy xmb a S' v' sz) 0 0 (xA xmb a sz) := by
  refine Met.ofW (cc := cX12_hottest) (maxL := 3) (ret := (some .int)) (by decide) rfl ?_
  intro p e s m args below meth c s₁ B hml hv
  obtain ⟨rfl, hsz, hP, hK, hE⟩ := hv
  subst hsz
  have hl := lv_entry ([.ref (a 0)]) (n := 3) (Nat.le_of_ble_eq_true rfl)
  rw [lg_entry_eq]
  generalize (lg_sl ([.ref (a 0)]) ++ List.replicate (3 - (lg_sl ([.ref (a 0)])).length) Slot.unset).toArray = ls at hl ⊢
  have hl : lv_has ls 3 [(0, .ref (a 0))] := hl
  exact w_X12_hottest_0 ⟨B.exec, B.bytes, hml, findClass_of_methodNamed B.named, fun w hw => atoms_spec (ws := Cond.code yX12_hottest cX12_hottest 3 (some .int) :: xTB) B.pre w (List.mem_cons_of_mem _ hw), hK, hI, hE⟩ B.returns B.notSynchronized hf (fun t0 e => e.symm) ⟨hP, va_S.rf⟩ (lv_sub hl [0] rfl)
set_option maxHeartbeats 4000000 in
set_option maxRecDepth 100000 in
theorem w_X12_hottestHeat_0 (hM : xM p c cX12_hottestHeat m s args RX12 1 D cy xmb a z) (hr : meth.sig.returnType = (some .int)) (hlk : meth.locks = false) {S' : xSt} {v' : Int32} {S : xSt} {q : (xSt × Int32)} (h : f_X12_hottestHeat_0 S = some q) (k0 : ∀ t0 : xSt × Int32, q = t0 → t0 = (S', v')) {H : Heap} {locs : List Loc} (hG : xG D cy xmb a S s H locs) {ls : Array Slot} (hl : lv_has ls 1 [(0, .ref (a 0))]) : W p l e ({ frames := 2, cells := 0, slots := 0, locals := 43 } : Room) s m args below meth c H locs 0 0 (MQ below (xQi D cy xmb a S' v' s.heap.size) args s 0 0 (xA xmb a s.heap.size)) (F0 m 0 ls []) := by
  have hx := hM.1
  have hb := hM.2.1
  refine lv_aload_n hx hb dX12_hottestHeat_0 rfl (lv_at hl 0 rfl) ?_
  refine x_cVi (As := []) (rest := []) hM hG xml_X12_285 xwi_X12_hottest xws_X12_hottest xmt_0 (by decide) rfl h (fun S' v e => c_X12_hottest hM.2.2.2.2.2.2.1 e _) ⟨Nat.le_of_ble_eq_true rfl, Nat.le_of_ble_eq_true rfl⟩ rfl hl.1 rfl (Nat.le_of_ble_eq_true rfl) dX12_hottestHeat_1 (fun S_1 v_2 H locs h hG => ?_)
  refine x_if_ge (tgt := 12) hM h dX12_hottestHeat_4 (by decide) (fun c_3 h => ?_) (fun c_3 h => ?_)
  · refine lv_aload_n hx hb dX12_hottestHeat_12 rfl (lv_at hl 0 rfl) ?_
    refine x_gr (r := 24) hM hG xfl_X12_83 xmt_0 (by decide) rfl dX12_hottestHeat_13 ?_
    refine lv_aload_n hx hb dX12_hottestHeat_16 rfl (lv_at hl 0 rfl) ?_
    refine x_cVi (As := []) (rest := [.ref (a 24)]) hM hG xml_X12_285 xwi_X12_hottest xws_X12_hottest xmt_0 (by decide) rfl h (fun S' v e => c_X12_hottest hM.2.2.2.2.2.2.1 e _) ⟨Nat.le_of_ble_eq_true rfl, Nat.le_of_ble_eq_true rfl⟩ rfl hl.1 rfl (Nat.le_of_ble_eq_true rfl) dX12_hottestHeat_17 (fun S_4 v_5 H locs h hG => ?_)
    refine x_iald hM hG xmt_24 h dX12_hottestHeat_20 (fun v_6 h => ?_)
    exact x_ri hM hG hr hlk rfl (k0 _ (Option.some.inj h).symm) dX12_hottestHeat_21
  · refine lv_bipush (v := (-2 : Int32)) hx hb dX12_hottestHeat_7 (by decide) ?_
    refine lv_goto (tgt := 21) hx hb dX12_hottestHeat_9 (by decide) ?_
    exact x_ri hM hG hr hlk rfl (k0 _ (Option.some.inj h).symm) dX12_hottestHeat_21
set_option maxHeartbeats 4000000 in
set_option maxRecDepth 100000 in
theorem c_X12_hottestHeat {l : Launch} {D : va_G} {cy : Nat → ClassId} {a z : Nat → Nat} (hI : xI xmb a) {S : xSt} {S' : xSt} {v' : Int32} (hf : f_X12_hottestHeat S = some (S', v')) (sz : Nat) : Met l yX12_hottestHeat (Cond.code yX12_hottestHeat cX12_hottestHeat 1 (some .int) :: xTB) ({ frames := 2, cells := 0, slots := 0, locals := 43 } : Room) (va_Pc [.ref (a 0)] (xPre D cy xmb a z S sz)) (xQi D cy xmb a S' v' sz) 0 0 (xA xmb a sz) := by
  refine Met.ofW (cc := cX12_hottestHeat) (maxL := 1) (ret := (some .int)) (by decide) rfl ?_
  intro p e s m args below meth c s₁ B hml hv
  obtain ⟨rfl, hsz, hP, hK, hE⟩ := hv
  subst hsz
  have hl := lv_entry ([.ref (a 0)]) (n := 1) (Nat.le_of_ble_eq_true rfl)
  rw [lg_entry_eq]
  generalize (lg_sl ([.ref (a 0)]) ++ List.replicate (1 - (lg_sl ([.ref (a 0)])).length) Slot.unset).toArray = ls at hl ⊢
  have hl : lv_has ls 1 [(0, .ref (a 0))] := hl
  exact w_X12_hottestHeat_0 ⟨B.exec, B.bytes, hml, findClass_of_methodNamed B.named, fun w hw => atoms_spec (ws := Cond.code yX12_hottestHeat cX12_hottestHeat 1 (some .int) :: xTB) B.pre w (List.mem_cons_of_mem _ hw), hK, hI, hE⟩ B.returns B.notSynchronized hf (fun t0 e => e.symm) ⟨hP, va_S.rf⟩ (lv_sub hl [0] rfl)
set_option maxHeartbeats 4000000 in
set_option maxRecDepth 100000 in
theorem w_X12_glowMany_36 {x1 : Int32} {x2 : Int32} (hM : xM p c cX12_glowMany m s args RX12 3 D cy xmb a z) (hr : meth.sig.returnType = (some .int)) (hlk : meth.locks = false) {S' : xSt} {v' : Int32} {S : xSt} {q : ((xSt × Int32 × Int32) ⊕ (xSt × Int32))} (h : f_X12_glowMany_36 x1 x2 S = some q) (k0 : ∀ t0 : xSt × Int32, q = (.inr t0) → t0 = (S', v')) (k1 : ∀ (S : xSt) (x1 : Int32) (x2 : Int32), q = (.inl (S, x1, x2)) → ∀ (H : Heap) (locs : List Loc) (ls : Array Slot), xG D cy xmb a S s H locs → lv_has ls 3 [(0, .ref (a 0)), (1, .int x1), (2, .int x2)] → W p l e ({ frames := 1, cells := 0, slots := 0, locals := 21 } : Room) s m args below meth c H locs 0 0 (MQ below (xQi D cy xmb a S' v' s.heap.size) args s 0 0 (xA xmb a s.heap.size)) (F0 m 4 ls [])) {H : Heap} {locs : List Loc} (hG : xG D cy xmb a S s H locs) {ls : Array Slot} (hl : lv_has ls 3 [(0, .ref (a 0)), (1, .int x1), (2, .int x2)]) : W p l e ({ frames := 1, cells := 0, slots := 0, locals := 21 } : Room) s m args below meth c H locs 0 0 (MQ below (xQi D cy xmb a S' v' s.heap.size) args s 0 0 (xA xmb a s.heap.size)) (F0 m 36 ls []) := by
  have hx := hM.1
  have hb := hM.2.1
  refine x_iinc hM (fun v => [(2, .int v), (0, .ref (a 0)), (1, .int x1)]) h dX12_glowMany_36 hl (k := 2) rfl (by decide) (by decide) (fun _ => rfl) (fun v_1 ls h hl => ?_)
  refine lv_goto (tgt := 4) hx hb dX12_glowMany_39 (by decide) ?_
  exact k1 _ _ _ (Option.some.inj h).symm _ _ _ hG (lv_sub hl [1, 2, 0] rfl)
set_option maxHeartbeats 4000000 in
set_option maxRecDepth 100000 in
theorem w_X12_glowMany_4 {x1 : Int32} {x2 : Int32} (hM : xM p c cX12_glowMany m s args RX12 3 D cy xmb a z) (hr : meth.sig.returnType = (some .int)) (hlk : meth.locks = false) {S' : xSt} {v' : Int32} {S : xSt} {q : ((xSt × Int32 × Int32) ⊕ (xSt × Int32))} (h : f_X12_glowMany_4 S x1 x2 = some q) (k0 : ∀ t0 : xSt × Int32, q = (.inr t0) → t0 = (S', v')) (k1 : ∀ (S : xSt) (x1 : Int32) (x2 : Int32), q = (.inl (S, x1, x2)) → ∀ (H : Heap) (locs : List Loc) (ls : Array Slot), xG D cy xmb a S s H locs → lv_has ls 3 [(0, .ref (a 0)), (1, .int x1), (2, .int x2)] → W p l e ({ frames := 1, cells := 0, slots := 0, locals := 21 } : Room) s m args below meth c H locs 0 0 (MQ below (xQi D cy xmb a S' v' s.heap.size) args s 0 0 (xA xmb a s.heap.size)) (F0 m 4 ls [])) {H : Heap} {locs : List Loc} (hG : xG D cy xmb a S s H locs) {ls : Array Slot} (hl : lv_has ls 3 [(0, .ref (a 0)), (1, .int x1), (2, .int x2)]) : W p l e ({ frames := 1, cells := 0, slots := 0, locals := 21 } : Room) s m args below meth c H locs 0 0 (MQ below (xQi D cy xmb a S' v' s.heap.size) args s 0 0 (xA xmb a s.heap.size)) (F0 m 4 ls []) := by
  have hx := hM.1
  have hb := hM.2.1
  refine lv_iload_n hx hb dX12_glowMany_4 rfl (lv_at hl 2 rfl) ?_
  refine lv_bipush (v := (30 : Int32)) hx hb dX12_glowMany_5 (by decide) ?_
  refine x_icmp_ge (tgt := 42) hM h dX12_glowMany_7 (by decide) (fun c_1 h => ?_) (fun c_1 h => ?_)
  · refine lv_iload_n hx hb dX12_glowMany_42 rfl (lv_at hl 1 rfl) ?_
    exact x_ri hM hG hr hlk rfl (k0 _ (Option.some.inj h).symm) dX12_glowMany_43
  · refine lv_aload_n hx hb dX12_glowMany_10 rfl (lv_at hl 0 rfl) ?_
    refine lv_iload_n hx hb dX12_glowMany_11 rfl (lv_at hl 2 rfl) ?_
    refine x_cVi (As := [.int x2]) (rest := []) hM hG xml_X12_279 xwi_X12_isThereNow xws_X12_isThereNow xmt_0 (by decide) rfl h (fun S' v e => c_X12_isThereNow hM.2.2.2.2.2.2.1 e _) ⟨Nat.le_of_ble_eq_true rfl, Nat.le_of_ble_eq_true rfl⟩ rfl hl.1 rfl (Nat.le_of_ble_eq_true rfl) dX12_glowMany_12 (fun S_2 v_3 H locs h hG => ?_)
    refine x_if_eq (tgt := 36) hM h dX12_glowMany_15 (by decide) (fun c_4 h => ?_) (fun c_4 h => ?_)
    · exact w_X12_glowMany_36 hM hr hlk h (fun t0 e => k0 t0 e) (fun S x1 x2 e => k1 S x1 x2 e) hG (lv_sub hl [0, 1, 2] rfl)
    · refine lv_aload_n hx hb dX12_glowMany_18 rfl (lv_at hl 0 rfl) ?_
      refine x_gr (r := 24) hM hG xfl_X12_83 xmt_0 (by decide) rfl dX12_glowMany_19 ?_
      refine lv_iload_n hx hb dX12_glowMany_22 rfl (lv_at hl 2 rfl) ?_
      refine x_iald hM hG xmt_24 h dX12_glowMany_23 (fun v_5 h => ?_)
      refine lv_aload_n hx hb dX12_glowMany_24 rfl (lv_at hl 0 rfl) ?_
      refine x_gr (r := 8) hM hG xfl_X12_33 xmt_0 (by decide) rfl dX12_glowMany_25 ?_
      refine lv_iconst (v := (0 : Int32)) hx hb dX12_glowMany_28 (by decide) ?_
      refine x_iald hM hG xmt_8 h dX12_glowMany_29 (fun v_6 h => ?_)
      refine x_icmp_lt (tgt := 36) hM h dX12_glowMany_30 (by decide) (fun c_7 h => ?_) (fun c_7 h => ?_)
      · exact w_X12_glowMany_36 hM hr hlk h (fun t0 e => k0 t0 e) (fun S x1 x2 e => k1 S x1 x2 e) hG (lv_sub hl [0, 1, 2] rfl)
      · refine x_iinc hM (fun v => [(1, .int v), (0, .ref (a 0)), (2, .int x2)]) h dX12_glowMany_33 hl (k := 1) rfl (by decide) (by decide) (fun _ => rfl) (fun v_8 ls h hl => ?_)
        exact w_X12_glowMany_36 hM hr hlk h (fun t0 e => k0 t0 e) (fun S x1 x2 e => k1 S x1 x2 e) hG (lv_sub hl [1, 0, 2] rfl)
theorem wl_X12_glowMany_4 (hM : xM p c cX12_glowMany m s args RX12 3 D cy xmb a z) (hr : meth.sig.returnType = (some .int)) (hlk : meth.locks = false) {S' : xSt} {v' : Int32} {q : (xSt × Int32)} (k0 : ∀ t0 : xSt × Int32, q = t0 → t0 = (S', v')) (n : Nat) : ∀ (S : xSt) (x1 : Int32) (x2 : Int32) (H : Heap) (locs : List Loc) (ls : Array Slot), xlp (fun q : (xSt × Int32 × Int32) => f_X12_glowMany_4 q.1 q.2.1 q.2.2) n (S, x1, x2) = some q → xG D cy xmb a S s H locs → lv_has ls 3 [(0, .ref (a 0)), (1, .int x1), (2, .int x2)] → W p l e ({ frames := 1, cells := 0, slots := 0, locals := 21 } : Room) s m args below meth c H locs 0 0 (MQ below (xQi D cy xmb a S' v' s.heap.size) args s 0 0 (xA xmb a s.heap.size)) (F0 m 4 ls []) := by
  induction n with
  | zero => intro S x1 x2 H locs ls h; exact (xlp_0 h).elim
  | succ n ih =>
    intro S x1 x2 H locs ls h hG hl
    obtain ⟨q1, hq, hc, he⟩ := xlp_at h
    exact w_X12_glowMany_4 hM hr hlk (q := q1) hq (fun t0 e => k0 t0 (he _ e).symm) (fun S x1 x2 e H locs ls hG hl => ih S x1 x2 H locs ls (hc _ e) hG hl) hG hl
set_option maxHeartbeats 4000000 in
set_option maxRecDepth 100000 in
theorem w_X12_glowMany_0 (hM : xM p c cX12_glowMany m s args RX12 3 D cy xmb a z) (hr : meth.sig.returnType = (some .int)) (hlk : meth.locks = false) {S' : xSt} {v' : Int32} {S : xSt} {q : (xSt × Int32)} (h : f_X12_glowMany_0 S = some q) (k0 : ∀ t0 : xSt × Int32, q = t0 → t0 = (S', v')) {H : Heap} {locs : List Loc} (hG : xG D cy xmb a S s H locs) {ls : Array Slot} (hl : lv_has ls 3 [(0, .ref (a 0))]) : W p l e ({ frames := 1, cells := 0, slots := 0, locals := 21 } : Room) s m args below meth c H locs 0 0 (MQ below (xQi D cy xmb a S' v' s.heap.size) args s 0 0 (xA xmb a s.heap.size)) (F0 m 0 ls []) := by
  have hx := hM.1
  have hb := hM.2.1
  refine lv_iconst (v := (0 : Int32)) hx hb dX12_glowMany_0 (by decide) ?_
  refine lv_istore_n (lv' := [(1, .int (0 : Int32)), (0, .ref (a 0))]) hx hb dX12_glowMany_1 rfl hl (by decide) rfl (fun ls hl => ?_)
  refine lv_iconst (v := (0 : Int32)) hx hb dX12_glowMany_2 (by decide) ?_
  refine lv_istore_n (lv' := [(2, .int (0 : Int32)), (1, .int (0 : Int32)), (0, .ref (a 0))]) hx hb dX12_glowMany_3 rfl hl (by decide) rfl (fun ls hl => ?_)
  exact wl_X12_glowMany_4 hM hr hlk (fun t0 e => k0 t0 e) 5000 _ _ _ _ _ _ h hG (lv_sub hl [2, 1, 0] rfl)
set_option maxHeartbeats 4000000 in
set_option maxRecDepth 100000 in
theorem c_X12_glowMany {l : Launch} {D : va_G} {cy : Nat → ClassId} {a z : Nat → Nat} (hI : xI xmb a) {S : xSt} {S' : xSt} {v' : Int32} (hf : f_X12_glowMany S = some (S', v')) (sz : Nat) : Met l yX12_glowMany (Cond.code yX12_glowMany cX12_glowMany 3 (some .int) :: xTB) ({ frames := 1, cells := 0, slots := 0, locals := 21 } : Room) (va_Pc [.ref (a 0)] (xPre D cy xmb a z S sz)) (xQi D cy xmb a S' v' sz) 0 0 (xA xmb a sz) := by
  refine Met.ofW (cc := cX12_glowMany) (maxL := 3) (ret := (some .int)) (by decide) rfl ?_
  intro p e s m args below meth c s₁ B hml hv
  obtain ⟨rfl, hsz, hP, hK, hE⟩ := hv
  subst hsz
  have hl := lv_entry ([.ref (a 0)]) (n := 3) (Nat.le_of_ble_eq_true rfl)
  rw [lg_entry_eq]
  generalize (lg_sl ([.ref (a 0)]) ++ List.replicate (3 - (lg_sl ([.ref (a 0)])).length) Slot.unset).toArray = ls at hl ⊢
  have hl : lv_has ls 3 [(0, .ref (a 0))] := hl
  exact w_X12_glowMany_0 ⟨B.exec, B.bytes, hml, findClass_of_methodNamed B.named, fun w hw => atoms_spec (ws := Cond.code yX12_glowMany cX12_glowMany 3 (some .int) :: xTB) B.pre w (List.mem_cons_of_mem _ hw), hK, hI, hE⟩ B.returns B.notSynchronized hf (fun t0 e => e.symm) ⟨hP, va_S.rf⟩ (lv_sub hl [0] rfl)
set_option maxHeartbeats 4000000 in
set_option maxRecDepth 100000 in
theorem w_X12_allGood_27 {x1 : Int32} {x2 : Int32} (hM : xM p c cX12_allGood m s args RX12 3 D cy xmb a z) (hr : meth.sig.returnType = (some .int)) (hlk : meth.locks = false) {S' : xSt} {v' : Int32} {S : xSt} {q : ((xSt × Int32 × Int32) ⊕ (xSt × Int32))} (h : f_X12_allGood_27 x1 x2 S = some q) (k0 : ∀ t0 : xSt × Int32, q = (.inr t0) → t0 = (S', v')) (k1 : ∀ (S : xSt) (x1 : Int32) (x2 : Int32), q = (.inl (S, x1, x2)) → ∀ (H : Heap) (locs : List Loc) (ls : Array Slot), xG D cy xmb a S s H locs → lv_has ls 3 [(0, .ref (a 0)), (1, .int x1), (2, .int x2)] → W p l e ({ frames := 1, cells := 0, slots := 0, locals := 21 } : Room) s m args below meth c H locs 0 0 (MQ below (xQi D cy xmb a S' v' s.heap.size) args s 0 0 (xA xmb a s.heap.size)) (F0 m 4 ls [])) {H : Heap} {locs : List Loc} (hG : xG D cy xmb a S s H locs) {ls : Array Slot} (hl : lv_has ls 3 [(0, .ref (a 0)), (1, .int x1), (2, .int x2)]) : W p l e ({ frames := 1, cells := 0, slots := 0, locals := 21 } : Room) s m args below meth c H locs 0 0 (MQ below (xQi D cy xmb a S' v' s.heap.size) args s 0 0 (xA xmb a s.heap.size)) (F0 m 27 ls []) := by
  have hx := hM.1
  have hb := hM.2.1
  refine x_iinc hM (fun v => [(2, .int v), (0, .ref (a 0)), (1, .int x1)]) h dX12_allGood_27 hl (k := 2) rfl (by decide) (by decide) (fun _ => rfl) (fun v_1 ls h hl => ?_)
  refine lv_goto (tgt := 4) hx hb dX12_allGood_30 (by decide) ?_
  exact k1 _ _ _ (Option.some.inj h).symm _ _ _ hG (lv_sub hl [1, 2, 0] rfl)
set_option maxHeartbeats 4000000 in
set_option maxRecDepth 100000 in
theorem w_X12_allGood_4 {x1 : Int32} {x2 : Int32} (hM : xM p c cX12_allGood m s args RX12 3 D cy xmb a z) (hr : meth.sig.returnType = (some .int)) (hlk : meth.locks = false) {S' : xSt} {v' : Int32} {S : xSt} {q : ((xSt × Int32 × Int32) ⊕ (xSt × Int32))} (h : f_X12_allGood_4 S x1 x2 = some q) (k0 : ∀ t0 : xSt × Int32, q = (.inr t0) → t0 = (S', v')) (k1 : ∀ (S : xSt) (x1 : Int32) (x2 : Int32), q = (.inl (S, x1, x2)) → ∀ (H : Heap) (locs : List Loc) (ls : Array Slot), xG D cy xmb a S s H locs → lv_has ls 3 [(0, .ref (a 0)), (1, .int x1), (2, .int x2)] → W p l e ({ frames := 1, cells := 0, slots := 0, locals := 21 } : Room) s m args below meth c H locs 0 0 (MQ below (xQi D cy xmb a S' v' s.heap.size) args s 0 0 (xA xmb a s.heap.size)) (F0 m 4 ls [])) {H : Heap} {locs : List Loc} (hG : xG D cy xmb a S s H locs) {ls : Array Slot} (hl : lv_has ls 3 [(0, .ref (a 0)), (1, .int x1), (2, .int x2)]) : W p l e ({ frames := 1, cells := 0, slots := 0, locals := 21 } : Room) s m args below meth c H locs 0 0 (MQ below (xQi D cy xmb a S' v' s.heap.size) args s 0 0 (xA xmb a s.heap.size)) (F0 m 4 ls []) := by
  have hx := hM.1
  have hb := hM.2.1
  refine lv_iload_n hx hb dX12_allGood_4 rfl (lv_at hl 2 rfl) ?_
  refine lv_bipush (v := (30 : Int32)) hx hb dX12_allGood_5 (by decide) ?_
  refine x_icmp_ge (tgt := 33) hM h dX12_allGood_7 (by decide) (fun c_1 h => ?_) (fun c_1 h => ?_)
  · refine lv_iload_n hx hb dX12_allGood_33 rfl (lv_at hl 1 rfl) ?_
    exact x_ri hM hG hr hlk rfl (k0 _ (Option.some.inj h).symm) dX12_allGood_34
  · refine lv_aload_n hx hb dX12_allGood_10 rfl (lv_at hl 0 rfl) ?_
    refine lv_iload_n hx hb dX12_allGood_11 rfl (lv_at hl 2 rfl) ?_
    refine x_cVi (As := [.int x2]) (rest := []) hM hG xml_X12_279 xwi_X12_isThereNow xws_X12_isThereNow xmt_0 (by decide) rfl h (fun S' v e => c_X12_isThereNow hM.2.2.2.2.2.2.1 e _) ⟨Nat.le_of_ble_eq_true rfl, Nat.le_of_ble_eq_true rfl⟩ rfl hl.1 rfl (Nat.le_of_ble_eq_true rfl) dX12_allGood_12 (fun S_2 v_3 H locs h hG => ?_)
    refine x_if_eq (tgt := 27) hM h dX12_allGood_15 (by decide) (fun c_4 h => ?_) (fun c_4 h => ?_)
    · exact w_X12_allGood_27 hM hr hlk h (fun t0 e => k0 t0 e) (fun S x1 x2 e => k1 S x1 x2 e) hG (lv_sub hl [0, 1, 2] rfl)
    · refine lv_iload_n hx hb dX12_allGood_18 rfl (lv_at hl 1 rfl) ?_
      refine lv_aload_n hx hb dX12_allGood_19 rfl (lv_at hl 0 rfl) ?_
      refine x_gr (r := 25) hM hG xfl_X12_86 xmt_0 (by decide) rfl dX12_allGood_20 ?_
      refine lv_iload_n hx hb dX12_allGood_23 rfl (lv_at hl 2 rfl) ?_
      refine x_iald hM hG xmt_25 h dX12_allGood_24 (fun v_5 h => ?_)
      refine x_iadd hM h dX12_allGood_25 (fun v_6 h => ?_)
      refine lv_istore_n (lv' := [(1, .int v_6), (0, .ref (a 0)), (2, .int x2)]) hx hb dX12_allGood_26 rfl hl (by decide) rfl (fun ls hl => ?_)
      exact w_X12_allGood_27 hM hr hlk h (fun t0 e => k0 t0 e) (fun S x1 x2 e => k1 S x1 x2 e) hG (lv_sub hl [1, 0, 2] rfl)
theorem wl_X12_allGood_4 (hM : xM p c cX12_allGood m s args RX12 3 D cy xmb a z) (hr : meth.sig.returnType = (some .int)) (hlk : meth.locks = false) {S' : xSt} {v' : Int32} {q : (xSt × Int32)} (k0 : ∀ t0 : xSt × Int32, q = t0 → t0 = (S', v')) (n : Nat) : ∀ (S : xSt) (x1 : Int32) (x2 : Int32) (H : Heap) (locs : List Loc) (ls : Array Slot), xlp (fun q : (xSt × Int32 × Int32) => f_X12_allGood_4 q.1 q.2.1 q.2.2) n (S, x1, x2) = some q → xG D cy xmb a S s H locs → lv_has ls 3 [(0, .ref (a 0)), (1, .int x1), (2, .int x2)] → W p l e ({ frames := 1, cells := 0, slots := 0, locals := 21 } : Room) s m args below meth c H locs 0 0 (MQ below (xQi D cy xmb a S' v' s.heap.size) args s 0 0 (xA xmb a s.heap.size)) (F0 m 4 ls []) := by
  induction n with
  | zero => intro S x1 x2 H locs ls h; exact (xlp_0 h).elim
  | succ n ih =>
    intro S x1 x2 H locs ls h hG hl
    obtain ⟨q1, hq, hc, he⟩ := xlp_at h
    exact w_X12_allGood_4 hM hr hlk (q := q1) hq (fun t0 e => k0 t0 (he _ e).symm) (fun S x1 x2 e H locs ls hG hl => ih S x1 x2 H locs ls (hc _ e) hG hl) hG hl
set_option maxHeartbeats 4000000 in
set_option maxRecDepth 100000 in
theorem w_X12_allGood_0 (hM : xM p c cX12_allGood m s args RX12 3 D cy xmb a z) (hr : meth.sig.returnType = (some .int)) (hlk : meth.locks = false) {S' : xSt} {v' : Int32} {S : xSt} {q : (xSt × Int32)} (h : f_X12_allGood_0 S = some q) (k0 : ∀ t0 : xSt × Int32, q = t0 → t0 = (S', v')) {H : Heap} {locs : List Loc} (hG : xG D cy xmb a S s H locs) {ls : Array Slot} (hl : lv_has ls 3 [(0, .ref (a 0))]) : W p l e ({ frames := 1, cells := 0, slots := 0, locals := 21 } : Room) s m args below meth c H locs 0 0 (MQ below (xQi D cy xmb a S' v' s.heap.size) args s 0 0 (xA xmb a s.heap.size)) (F0 m 0 ls []) := by
  have hx := hM.1
  have hb := hM.2.1
  refine lv_iconst (v := (0 : Int32)) hx hb dX12_allGood_0 (by decide) ?_
  refine lv_istore_n (lv' := [(1, .int (0 : Int32)), (0, .ref (a 0))]) hx hb dX12_allGood_1 rfl hl (by decide) rfl (fun ls hl => ?_)
  refine lv_iconst (v := (0 : Int32)) hx hb dX12_allGood_2 (by decide) ?_
  refine lv_istore_n (lv' := [(2, .int (0 : Int32)), (1, .int (0 : Int32)), (0, .ref (a 0))]) hx hb dX12_allGood_3 rfl hl (by decide) rfl (fun ls hl => ?_)
  exact wl_X12_allGood_4 hM hr hlk (fun t0 e => k0 t0 e) 5000 _ _ _ _ _ _ h hG (lv_sub hl [2, 1, 0] rfl)
set_option maxHeartbeats 4000000 in
set_option maxRecDepth 100000 in
theorem c_X12_allGood {l : Launch} {D : va_G} {cy : Nat → ClassId} {a z : Nat → Nat} (hI : xI xmb a) {S : xSt} {S' : xSt} {v' : Int32} (hf : f_X12_allGood S = some (S', v')) (sz : Nat) : Met l yX12_allGood (Cond.code yX12_allGood cX12_allGood 3 (some .int) :: xTB) ({ frames := 1, cells := 0, slots := 0, locals := 21 } : Room) (va_Pc [.ref (a 0)] (xPre D cy xmb a z S sz)) (xQi D cy xmb a S' v' sz) 0 0 (xA xmb a sz) := by
  refine Met.ofW (cc := cX12_allGood) (maxL := 3) (ret := (some .int)) (by decide) rfl ?_
  intro p e s m args below meth c s₁ B hml hv
  obtain ⟨rfl, hsz, hP, hK, hE⟩ := hv
  subst hsz
  have hl := lv_entry ([.ref (a 0)]) (n := 3) (Nat.le_of_ble_eq_true rfl)
  rw [lg_entry_eq]
  generalize (lg_sl ([.ref (a 0)]) ++ List.replicate (3 - (lg_sl ([.ref (a 0)])).length) Slot.unset).toArray = ls at hl ⊢
  have hl : lv_has ls 3 [(0, .ref (a 0))] := hl
  exact w_X12_allGood_0 ⟨B.exec, B.bytes, hml, findClass_of_methodNamed B.named, fun w hw => atoms_spec (ws := Cond.code yX12_allGood cX12_allGood 3 (some .int) :: xTB) B.pre w (List.mem_cons_of_mem _ hw), hK, hI, hE⟩ B.returns B.notSynchronized hf (fun t0 e => e.symm) ⟨hP, va_S.rf⟩ (lv_sub hl [0] rfl)
set_option maxHeartbeats 4000000 in
set_option maxRecDepth 100000 in
theorem w_X12_areDays_0 {x0 : Int32} (hM : xM p c cX12_areDays m s args RX12 1 D cy xmb a z) (hr : meth.sig.returnType = (some .boolean)) (hlk : meth.locks = false) {S' : xSt} {v' : Int32} {S : xSt} {q : (xSt × Int32)} (h : f_X12_areDays_0 x0 S = some q) (k0 : ∀ t0 : xSt × Int32, q = t0 → t0 = (S', v')) {H : Heap} {locs : List Loc} (hG : xG D cy xmb a S s H locs) {ls : Array Slot} (hl : lv_has ls 1 [(0, .int x0)]) : W p l e ({ frames := 1, cells := 0, slots := 0, locals := 22 } : Room) s m args below meth c H locs 0 0 (MQ below (xQi D cy xmb a S' v' s.heap.size) args s 0 0 (xA xmb a s.heap.size)) (F0 m 0 ls []) := by
  have hx := hM.1
  have hb := hM.2.1
  refine lv_iload_n hx hb dX12_areDays_0 rfl (lv_at hl 0 rfl) ?_
  refine lv_iconst (v := (0 : Int32)) hx hb dX12_areDays_1 (by decide) ?_
  refine lv_bipush (v := (40 : Int32)) hx hb dX12_areDays_2 (by decide) ?_
  refine x_cSi (As := [.int x0, .int (0 : Int32), .int (40 : Int32)]) (rest := []) hM hG xml_X12_142 xwt_X12_in h (fun S' v e => c_X12_in hM.2.2.2.2.2.2.1 e _) ⟨Nat.le_of_ble_eq_true rfl, Nat.le_of_ble_eq_true rfl⟩ rfl hl.1 rfl (Nat.le_of_ble_eq_true rfl) dX12_areDays_4 (fun S_1 v_2 H locs h hG => ?_)
  obtain ⟨hz, h⟩ := xgd_at h
  exact x_ri hM hG hr hlk (x_nz hz) (k0 _ (Option.some.inj h).symm) dX12_areDays_7
set_option maxHeartbeats 4000000 in
set_option maxRecDepth 100000 in
theorem c_X12_areDays {l : Launch} {D : va_G} {cy : Nat → ClassId} {a z : Nat → Nat} (hI : xI xmb a) {S : xSt} {x0 : Int32} {S' : xSt} {v' : Int32} (hf : f_X12_areDays S x0 = some (S', v')) (sz : Nat) : Met l yX12_areDays (Cond.code yX12_areDays cX12_areDays 1 (some .boolean) :: xTB) ({ frames := 1, cells := 0, slots := 0, locals := 22 } : Room) (va_Pc [.int x0] (xPre D cy xmb a z S sz)) (xQi D cy xmb a S' v' sz) 0 0 (xA xmb a sz) := by
  refine Met.ofW (cc := cX12_areDays) (maxL := 1) (ret := (some .boolean)) (by decide) rfl ?_
  intro p e s m args below meth c s₁ B hml hv
  obtain ⟨rfl, hsz, hP, hK, hE⟩ := hv
  subst hsz
  have hl := lv_entry ([.int x0]) (n := 1) (Nat.le_of_ble_eq_true rfl)
  rw [lg_entry_eq]
  generalize (lg_sl ([.int x0]) ++ List.replicate (1 - (lg_sl ([.int x0])).length) Slot.unset).toArray = ls at hl ⊢
  have hl : lv_has ls 1 [(0, .int x0)] := hl
  exact w_X12_areDays_0 ⟨B.exec, B.bytes, hml, findClass_of_methodNamed B.named, fun w hw => atoms_spec (ws := Cond.code yX12_areDays cX12_areDays 1 (some .boolean) :: xTB) B.pre w (List.mem_cons_of_mem _ hw), hK, hI, hE⟩ B.returns B.notSynchronized hf (fun t0 e => e.symm) ⟨hP, va_S.rf⟩ (lv_sub hl [0] rfl)
set_option maxHeartbeats 4000000 in
set_option maxRecDepth 100000 in
theorem w_X12_later_0 {x1 : Int32} {x2 : Int32} {x3 : Int32} (hM : xM p c cX12_later m s args RX12 4 D cy xmb a z) (hr : meth.sig.returnType = (some .int)) (hlk : meth.locks = false) {S' : xSt} {v' : Int32} {S : xSt} {q : (xSt × Int32)} (h : f_X12_later_0 x1 x2 x3 S = some q) (k0 : ∀ t0 : xSt × Int32, q = t0 → t0 = (S', v')) {H : Heap} {locs : List Loc} (hG : xG D cy xmb a S s H locs) {ls : Array Slot} (hl : lv_has ls 4 [(0, .ref (a 0)), (1, .int x1), (2, .int x2), (3, .int x3)]) : W p l e ({ frames := 8, cells := 0, slots := 0, locals := 179 } : Room) s m args below meth c H locs 0 0 (MQ below (xQi D cy xmb a S' v' s.heap.size) args s 0 0 (xA xmb a s.heap.size)) (F0 m 0 ls []) := by
  have hx := hM.1
  have hb := hM.2.1
  refine lv_iload_n hx hb dX12_later_0 rfl (lv_at hl 1 rfl) ?_
  refine x_cSi (As := [.int x1]) (rest := []) hM hG xml_X12_288 xwt_X12_areDays h (fun S' v e => c_X12_areDays hM.2.2.2.2.2.2.1 e _) ⟨Nat.le_of_ble_eq_true rfl, Nat.le_of_ble_eq_true rfl⟩ rfl hl.1 rfl (Nat.le_of_ble_eq_true rfl) dX12_later_1 (fun S_1 v_2 H locs h hG => ?_)
  refine x_if_eq (tgt := 24) hM h dX12_later_4 (by decide) (fun c_3 h => ?_) (fun c_3 h => ?_)
  · refine lv_iconst (v := (-1 : Int32)) hx hb dX12_later_24 (by decide) ?_
    exact x_ri hM hG hr hlk rfl (k0 _ (Option.some.inj h).symm) dX12_later_25
  · refine lv_aload_n hx hb dX12_later_7 rfl (lv_at hl 0 rfl) ?_
    refine lv_iload_n hx hb dX12_later_8 rfl (lv_at hl 2 rfl) ?_
    refine x_cVi (As := [.int x2]) (rest := []) hM hG xml_X12_173 xwi_X12_isCell xws_X12_isCell xmt_0 (by decide) rfl h (fun S' v e => c_X12_isCell hM.2.2.2.2.2.2.1 e _) ⟨Nat.le_of_ble_eq_true rfl, Nat.le_of_ble_eq_true rfl⟩ rfl hl.1 rfl (Nat.le_of_ble_eq_true rfl) dX12_later_9 (fun S_4 v_5 H locs h hG => ?_)
    refine x_if_eq (tgt := 24) hM h dX12_later_12 (by decide) (fun c_6 h => ?_) (fun c_6 h => ?_)
    · refine lv_iconst (v := (-1 : Int32)) hx hb dX12_later_24 (by decide) ?_
      exact x_ri hM hG hr hlk rfl (k0 _ (Option.some.inj h).symm) dX12_later_25
    · refine lv_iload_n hx hb dX12_later_15 rfl (lv_at hl 3 rfl) ?_
      refine lv_iconst (v := (0 : Int32)) hx hb dX12_later_16 (by decide) ?_
      refine lv_iconst (v := (2 : Int32)) hx hb dX12_later_17 (by decide) ?_
      refine x_cSi (As := [.int x3, .int (0 : Int32), .int (2 : Int32)]) (rest := []) hM hG xml_X12_142 xwt_X12_in h (fun S' v e => c_X12_in hM.2.2.2.2.2.2.1 e _) ⟨Nat.le_of_ble_eq_true rfl, Nat.le_of_ble_eq_true rfl⟩ rfl hl.1 rfl (Nat.le_of_ble_eq_true rfl) dX12_later_18 (fun S_7 v_8 H locs h hG => ?_)
      refine x_if_ne (tgt := 26) hM h dX12_later_21 (by decide) (fun c_9 h => ?_) (fun c_9 h => ?_)
      · refine lv_aload_n hx hb dX12_later_26 rfl (lv_at hl 0 rfl) ?_
        refine x_cVv (As := []) (rest := []) hM hG xml_X12_273 xwi_X12_layNow xws_X12_layNow xmt_0 (by decide) rfl h (fun S' v e => c_X12_layNow hM.2.2.2.2.2.2.1 e _) ⟨Nat.le_of_ble_eq_true rfl, Nat.le_of_ble_eq_true rfl⟩ rfl hl.1 rfl (Nat.le_of_ble_eq_true rfl) dX12_later_27 (fun S_10 v_11 H locs h hG => ?_)
        refine lv_aload_n hx hb dX12_later_30 rfl (lv_at hl 0 rfl) ?_
        refine lv_iload_n hx hb dX12_later_31 rfl (lv_at hl 1 rfl) ?_
        refine x_cVv (As := [.int x1]) (rest := []) hM hG xml_X12_291 xwi_X12_goDays xws_X12_goDays xmt_0 (by decide) rfl h (fun S' v e => c_X12_goDays hM.2.2.2.2.2.2.1 e _) ⟨Nat.le_of_ble_eq_true rfl, Nat.le_of_ble_eq_true rfl⟩ rfl hl.1 rfl (Nat.le_of_ble_eq_true rfl) dX12_later_32 (fun S_12 v_13 H locs h hG => ?_)
        refine lv_iload_n hx hb dX12_later_35 rfl (lv_at hl 3 rfl) ?_
        refine x_if_ne (tgt := 48) hM h dX12_later_36 (by decide) (fun c_14 h => ?_) (fun c_14 h => ?_)
        · refine lv_iload_n hx hb dX12_later_48 rfl (lv_at hl 3 rfl) ?_
          refine lv_iconst (v := (1 : Int32)) hx hb dX12_later_49 (by decide) ?_
          refine x_icmp_ne (tgt := 62) hM h dX12_later_50 (by decide) (fun c_15 h => ?_) (fun c_15 h => ?_)
          · refine lv_aload_n hx hb dX12_later_62 rfl (lv_at hl 0 rfl) ?_
            refine x_gr (r := 25) hM hG xfl_X12_86 xmt_0 (by decide) rfl dX12_later_63 ?_
            refine lv_iload_n hx hb dX12_later_66 rfl (lv_at hl 2 rfl) ?_
            refine x_iald hM hG xmt_25 h dX12_later_67 (fun v_16 h => ?_)
            exact x_ri hM hG hr hlk rfl (k0 _ (Option.some.inj h).symm) dX12_later_68
          · refine lv_aload_n hx hb dX12_later_53 rfl (lv_at hl 0 rfl) ?_
            refine x_gr (r := 23) hM hG xfl_X12_80 xmt_0 (by decide) rfl dX12_later_54 ?_
            refine lv_iload_n hx hb dX12_later_57 rfl (lv_at hl 2 rfl) ?_
            refine x_iald hM hG xmt_23 h dX12_later_58 (fun v_17 h => ?_)
            refine lv_goto (tgt := 68) hx hb dX12_later_59 (by decide) ?_
            exact x_ri hM hG hr hlk rfl (k0 _ (Option.some.inj h).symm) dX12_later_68
        · refine lv_aload_n hx hb dX12_later_39 rfl (lv_at hl 0 rfl) ?_
          refine x_gr (r := 24) hM hG xfl_X12_83 xmt_0 (by decide) rfl dX12_later_40 ?_
          refine lv_iload_n hx hb dX12_later_43 rfl (lv_at hl 2 rfl) ?_
          refine x_iald hM hG xmt_24 h dX12_later_44 (fun v_18 h => ?_)
          refine lv_goto (tgt := 68) hx hb dX12_later_45 (by decide) ?_
          exact x_ri hM hG hr hlk rfl (k0 _ (Option.some.inj h).symm) dX12_later_68
      · refine lv_iconst (v := (-1 : Int32)) hx hb dX12_later_24 (by decide) ?_
        exact x_ri hM hG hr hlk rfl (k0 _ (Option.some.inj h).symm) dX12_later_25
set_option maxHeartbeats 4000000 in
set_option maxRecDepth 100000 in
theorem c_X12_later {l : Launch} {D : va_G} {cy : Nat → ClassId} {a z : Nat → Nat} (hI : xI xmb a) {S : xSt} {x1 : Int32} {x2 : Int32} {x3 : Int32} {S' : xSt} {v' : Int32} (hf : f_X12_later S x1 x2 x3 = some (S', v')) (sz : Nat) : Met l yX12_later (Cond.code yX12_later cX12_later 4 (some .int) :: xTB) ({ frames := 8, cells := 0, slots := 0, locals := 179 } : Room) (va_Pc [.ref (a 0), .int x1, .int x2, .int x3] (xPre D cy xmb a z S sz)) (xQi D cy xmb a S' v' sz) 0 0 (xA xmb a sz) := by
  refine Met.ofW (cc := cX12_later) (maxL := 4) (ret := (some .int)) (by decide) rfl ?_
  intro p e s m args below meth c s₁ B hml hv
  obtain ⟨rfl, hsz, hP, hK, hE⟩ := hv
  subst hsz
  have hl := lv_entry ([.ref (a 0), .int x1, .int x2, .int x3]) (n := 4) (Nat.le_of_ble_eq_true rfl)
  rw [lg_entry_eq]
  generalize (lg_sl ([.ref (a 0), .int x1, .int x2, .int x3]) ++ List.replicate (4 - (lg_sl ([.ref (a 0), .int x1, .int x2, .int x3])).length) Slot.unset).toArray = ls at hl ⊢
  have hl : lv_has ls 4 [(0, .ref (a 0)), (1, .int x1), (2, .int x2), (3, .int x3)] := hl
  exact w_X12_later_0 ⟨B.exec, B.bytes, hml, findClass_of_methodNamed B.named, fun w hw => atoms_spec (ws := Cond.code yX12_later cX12_later 4 (some .int) :: xTB) B.pre w (List.mem_cons_of_mem _ hw), hK, hI, hE⟩ B.returns B.notSynchronized hf (fun t0 e => e.symm) ⟨hP, va_S.rf⟩ (lv_sub hl [0, 1, 2, 3] rfl)
set_option maxHeartbeats 4000000 in
set_option maxRecDepth 100000 in
theorem w_X12_stack_0 {x1 : Int32} {x2 : Int32} (hM : xM p c cX12_stack m s args RX12 3 D cy xmb a z) (hr : meth.sig.returnType = (some .int)) (hlk : meth.locks = false) {S' : xSt} {v' : Int32} {S : xSt} {q : (xSt × Int32)} (h : f_X12_stack_0 x1 x2 S = some q) (k0 : ∀ t0 : xSt × Int32, q = t0 → t0 = (S', v')) {H : Heap} {locs : List Loc} (hG : xG D cy xmb a S s H locs) {ls : Array Slot} (hl : lv_has ls 3 [(0, .ref (a 0)), (1, .int x1), (2, .int x2)]) : W p l e ({ frames := 8, cells := 0, slots := 0, locals := 179 } : Room) s m args below meth c H locs 0 0 (MQ below (xQi D cy xmb a S' v' s.heap.size) args s 0 0 (xA xmb a s.heap.size)) (F0 m 0 ls []) := by
  have hx := hM.1
  have hb := hM.2.1
  refine lv_iload_n hx hb dX12_stack_0 rfl (lv_at hl 1 rfl) ?_
  refine x_cSi (As := [.int x1]) (rest := []) hM hG xml_X12_288 xwt_X12_areDays h (fun S' v e => c_X12_areDays hM.2.2.2.2.2.2.1 e _) ⟨Nat.le_of_ble_eq_true rfl, Nat.le_of_ble_eq_true rfl⟩ rfl hl.1 rfl (Nat.le_of_ble_eq_true rfl) dX12_stack_1 (fun S_1 v_2 H locs h hG => ?_)
  refine x_if_eq (tgt := 16) hM h dX12_stack_4 (by decide) (fun c_3 h => ?_) (fun c_3 h => ?_)
  · refine lv_iconst (v := (-1 : Int32)) hx hb dX12_stack_16 (by decide) ?_
    exact x_ri hM hG hr hlk rfl (k0 _ (Option.some.inj h).symm) dX12_stack_17
  · refine lv_iload_n hx hb dX12_stack_7 rfl (lv_at hl 2 rfl) ?_
    refine lv_iconst (v := (0 : Int32)) hx hb dX12_stack_8 (by decide) ?_
    refine lv_iconst (v := (3 : Int32)) hx hb dX12_stack_9 (by decide) ?_
    refine x_cSi (As := [.int x2, .int (0 : Int32), .int (3 : Int32)]) (rest := []) hM hG xml_X12_142 xwt_X12_in h (fun S' v e => c_X12_in hM.2.2.2.2.2.2.1 e _) ⟨Nat.le_of_ble_eq_true rfl, Nat.le_of_ble_eq_true rfl⟩ rfl hl.1 rfl (Nat.le_of_ble_eq_true rfl) dX12_stack_10 (fun S_4 v_5 H locs h hG => ?_)
    refine x_if_ne (tgt := 18) hM h dX12_stack_13 (by decide) (fun c_6 h => ?_) (fun c_6 h => ?_)
    · refine lv_aload_n hx hb dX12_stack_18 rfl (lv_at hl 0 rfl) ?_
      refine x_cVv (As := []) (rest := []) hM hG xml_X12_273 xwi_X12_layNow xws_X12_layNow xmt_0 (by decide) rfl h (fun S' v e => c_X12_layNow hM.2.2.2.2.2.2.1 e _) ⟨Nat.le_of_ble_eq_true rfl, Nat.le_of_ble_eq_true rfl⟩ rfl hl.1 rfl (Nat.le_of_ble_eq_true rfl) dX12_stack_19 (fun S_7 v_8 H locs h hG => ?_)
      refine lv_aload_n hx hb dX12_stack_22 rfl (lv_at hl 0 rfl) ?_
      refine lv_iload_n hx hb dX12_stack_23 rfl (lv_at hl 1 rfl) ?_
      refine x_cVv (As := [.int x1]) (rest := []) hM hG xml_X12_291 xwi_X12_goDays xws_X12_goDays xmt_0 (by decide) rfl h (fun S' v e => c_X12_goDays hM.2.2.2.2.2.2.1 e _) ⟨Nat.le_of_ble_eq_true rfl, Nat.le_of_ble_eq_true rfl⟩ rfl hl.1 rfl (Nat.le_of_ble_eq_true rfl) dX12_stack_24 (fun S_9 v_10 H locs h hG => ?_)
      refine lv_iload_n hx hb dX12_stack_27 rfl (lv_at hl 2 rfl) ?_
      by_cases c_11 : x2 = (0 : Int32)
      · have h := (if_pos c_11).symm.trans h
        refine lv_tableIn (off := 28) (tgt := 56) hx hb dX12_stack_28 (by rw [c_11]; decide) (by rw [c_11]; decide) (by rw [c_11]; rfl) (by decide) ?_
        refine lv_aload_n hx hb dX12_stack_56 rfl (lv_at hl 0 rfl) ?_
        refine x_cVi (As := []) (rest := []) hM hG xml_X12_285 xwi_X12_hottest xws_X12_hottest xmt_0 (by decide) rfl h (fun S' v e => c_X12_hottest hM.2.2.2.2.2.2.1 e _) ⟨Nat.le_of_ble_eq_true rfl, Nat.le_of_ble_eq_true rfl⟩ rfl hl.1 rfl (Nat.le_of_ble_eq_true rfl) dX12_stack_57 (fun S_12 v_13 H locs h hG => ?_)
        exact x_ri hM hG hr hlk rfl (k0 _ (Option.some.inj h).symm) dX12_stack_60
      · have h := (if_neg c_11).symm.trans h
        by_cases c_14 : x2 = (1 : Int32)
        · have h := (if_pos c_14).symm.trans h
          refine lv_tableIn (off := 33) (tgt := 61) hx hb dX12_stack_28 (by rw [c_14]; decide) (by rw [c_14]; decide) (by rw [c_14]; rfl) (by decide) ?_
          refine lv_aload_n hx hb dX12_stack_61 rfl (lv_at hl 0 rfl) ?_
          refine x_cVi (As := []) (rest := []) hM hG xml_X12_295 xwi_X12_hottestHeat xws_X12_hottestHeat xmt_0 (by decide) rfl h (fun S' v e => c_X12_hottestHeat hM.2.2.2.2.2.2.1 e _) ⟨Nat.le_of_ble_eq_true rfl, Nat.le_of_ble_eq_true rfl⟩ rfl hl.1 rfl (Nat.le_of_ble_eq_true rfl) dX12_stack_62 (fun S_15 v_16 H locs h hG => ?_)
          exact x_ri hM hG hr hlk rfl (k0 _ (Option.some.inj h).symm) dX12_stack_65
        · have h := (if_neg c_14).symm.trans h
          by_cases c_17 : x2 = (2 : Int32)
          · have h := (if_pos c_17).symm.trans h
            refine lv_tableIn (off := 38) (tgt := 66) hx hb dX12_stack_28 (by rw [c_17]; decide) (by rw [c_17]; decide) (by rw [c_17]; rfl) (by decide) ?_
            refine lv_aload_n hx hb dX12_stack_66 rfl (lv_at hl 0 rfl) ?_
            refine x_cVi (As := []) (rest := []) hM hG xml_X12_298 xwi_X12_glowMany xws_X12_glowMany xmt_0 (by decide) rfl h (fun S' v e => c_X12_glowMany hM.2.2.2.2.2.2.1 e _) ⟨Nat.le_of_ble_eq_true rfl, Nat.le_of_ble_eq_true rfl⟩ rfl hl.1 rfl (Nat.le_of_ble_eq_true rfl) dX12_stack_67 (fun S_18 v_19 H locs h hG => ?_)
            exact x_ri hM hG hr hlk rfl (k0 _ (Option.some.inj h).symm) dX12_stack_70
          · have h := (if_neg c_17).symm.trans h
            refine lv_tableOut (tgt := 71) hx hb dX12_stack_28 (x_tout [(0 : Int32), (1 : Int32), (2 : Int32)] 0 (by decide) (by decide) (List.forall_mem_cons.mpr ⟨c_11, (List.forall_mem_cons.mpr ⟨c_14, (List.forall_mem_cons.mpr ⟨c_17, (fun _ h => absurd h List.not_mem_nil)⟩)⟩)⟩)) (by decide) ?_
            refine lv_aload_n hx hb dX12_stack_71 rfl (lv_at hl 0 rfl) ?_
            refine x_cVi (As := []) (rest := []) hM hG xml_X12_301 xwi_X12_allGood xws_X12_allGood xmt_0 (by decide) rfl h (fun S' v e => c_X12_allGood hM.2.2.2.2.2.2.1 e _) ⟨Nat.le_of_ble_eq_true rfl, Nat.le_of_ble_eq_true rfl⟩ rfl hl.1 rfl (Nat.le_of_ble_eq_true rfl) dX12_stack_72 (fun S_20 v_21 H locs h hG => ?_)
            exact x_ri hM hG hr hlk rfl (k0 _ (Option.some.inj h).symm) dX12_stack_75
    · refine lv_iconst (v := (-1 : Int32)) hx hb dX12_stack_16 (by decide) ?_
      exact x_ri hM hG hr hlk rfl (k0 _ (Option.some.inj h).symm) dX12_stack_17
set_option maxHeartbeats 4000000 in
set_option maxRecDepth 100000 in
theorem c_X12_stack {l : Launch} {D : va_G} {cy : Nat → ClassId} {a z : Nat → Nat} (hI : xI xmb a) {S : xSt} {x1 : Int32} {x2 : Int32} {S' : xSt} {v' : Int32} (hf : f_X12_stack S x1 x2 = some (S', v')) (sz : Nat) : Met l yX12_stack (Cond.code yX12_stack cX12_stack 3 (some .int) :: xTB) ({ frames := 8, cells := 0, slots := 0, locals := 179 } : Room) (va_Pc [.ref (a 0), .int x1, .int x2] (xPre D cy xmb a z S sz)) (xQi D cy xmb a S' v' sz) 0 0 (xA xmb a sz) := by
  refine Met.ofW (cc := cX12_stack) (maxL := 3) (ret := (some .int)) (by decide) rfl ?_
  intro p e s m args below meth c s₁ B hml hv
  obtain ⟨rfl, hsz, hP, hK, hE⟩ := hv
  subst hsz
  have hl := lv_entry ([.ref (a 0), .int x1, .int x2]) (n := 3) (Nat.le_of_ble_eq_true rfl)
  rw [lg_entry_eq]
  generalize (lg_sl ([.ref (a 0), .int x1, .int x2]) ++ List.replicate (3 - (lg_sl ([.ref (a 0), .int x1, .int x2])).length) Slot.unset).toArray = ls at hl ⊢
  have hl : lv_has ls 3 [(0, .ref (a 0)), (1, .int x1), (2, .int x2)] := hl
  exact w_X12_stack_0 ⟨B.exec, B.bytes, hml, findClass_of_methodNamed B.named, fun w hw => atoms_spec (ws := Cond.code yX12_stack cX12_stack 3 (some .int) :: xTB) B.pre w (List.mem_cons_of_mem _ hw), hK, hI, hE⟩ B.returns B.notSynchronized hf (fun t0 e => e.symm) ⟨hP, va_S.rf⟩ (lv_sub hl [0, 1, 2] rfl)
set_option maxHeartbeats 4000000 in
set_option maxRecDepth 100000 in
theorem w_X12_first_54 {x1 : Int32} {x2 : Int32} {x3 : Int32} {y0 : Int32} (hM : xM p c cX12_first m s args RX12 4 D cy xmb a z) (hr : meth.sig.returnType = (some .int)) (hlk : meth.locks = false) {S' : xSt} {v' : Int32} {S : xSt} {q : ((xSt × Int32) ⊕ (xSt × Int32))} (h : f_X12_first_54 x1 x2 x3 y0 S = some q) (k0 : ∀ t0 : xSt × Int32, q = (.inr t0) → t0 = (S', v')) (k1 : ∀ (S : xSt) (x3 : Int32), q = (.inl (S, x3)) → ∀ (H : Heap) (locs : List Loc) (ls : Array Slot), xG D cy xmb a S s H locs → lv_has ls 4 [(0, .ref (a 0)), (1, .int x1), (2, .int x2), (3, .int x3)] → W p l e ({ frames := 7, cells := 0, slots := 0, locals := 157 } : Room) s m args below meth c H locs 0 0 (MQ below (xQi D cy xmb a S' v' s.heap.size) args s 0 0 (xA xmb a s.heap.size)) (F0 m 31 ls [])) {H : Heap} {locs : List Loc} (hG : xG D cy xmb a S s H locs) {ls : Array Slot} (hl : lv_has ls 4 [(0, .ref (a 0)), (1, .int x1), (2, .int x2), (3, .int x3)]) : W p l e ({ frames := 7, cells := 0, slots := 0, locals := 157 } : Room) s m args below meth c H locs 0 0 (MQ below (xQi D cy xmb a S' v' s.heap.size) args s 0 0 (xA xmb a s.heap.size)) (F0 m 54 ls [.int y0]) := by
  have hx := hM.1
  have hb := hM.2.1
  refine lv_iload_n hx hb dX12_first_54 rfl (lv_at hl 2 rfl) ?_
  refine x_icmp_lt (tgt := 60) hM h dX12_first_55 (by decide) (fun c_1 h => ?_) (fun c_1 h => ?_)
  · refine lv_aload_n hx hb dX12_first_60 rfl (lv_at hl 0 rfl) ?_
    refine x_cVv (As := []) (rest := []) hM hG xml_X12_282 xwi_X12_goDay xws_X12_goDay xmt_0 (by decide) rfl h (fun S' v e => c_X12_goDay hM.2.2.2.2.2.2.1 e _) ⟨Nat.le_of_ble_eq_true rfl, Nat.le_of_ble_eq_true rfl⟩ rfl hl.1 rfl (Nat.le_of_ble_eq_true rfl) dX12_first_61 (fun S_2 v_3 H locs h hG => ?_)
    refine x_iinc hM (fun v => [(3, .int v), (0, .ref (a 0)), (1, .int x1), (2, .int x2)]) h dX12_first_64 hl (k := 3) rfl (by decide) (by decide) (fun _ => rfl) (fun v_4 ls h hl => ?_)
    refine lv_goto (tgt := 31) hx hb dX12_first_67 (by decide) ?_
    exact k1 _ _ (Option.some.inj h).symm _ _ _ hG (lv_sub hl [1, 2, 3, 0] rfl)
  · refine lv_iload_n hx hb dX12_first_58 rfl (lv_at hl 3 rfl) ?_
    exact x_ri hM hG hr hlk rfl (k0 _ (Option.some.inj h).symm) dX12_first_59
set_option maxHeartbeats 4000000 in
set_option maxRecDepth 100000 in
theorem w_X12_first_31 {x1 : Int32} {x2 : Int32} {x3 : Int32} (hM : xM p c cX12_first m s args RX12 4 D cy xmb a z) (hr : meth.sig.returnType = (some .int)) (hlk : meth.locks = false) {S' : xSt} {v' : Int32} {S : xSt} {q : ((xSt × Int32) ⊕ (xSt × Int32))} (h : f_X12_first_31 x1 x2 S x3 = some q) (k0 : ∀ t0 : xSt × Int32, q = (.inr t0) → t0 = (S', v')) (k1 : ∀ (S : xSt) (x3 : Int32), q = (.inl (S, x3)) → ∀ (H : Heap) (locs : List Loc) (ls : Array Slot), xG D cy xmb a S s H locs → lv_has ls 4 [(0, .ref (a 0)), (1, .int x1), (2, .int x2), (3, .int x3)] → W p l e ({ frames := 7, cells := 0, slots := 0, locals := 157 } : Room) s m args below meth c H locs 0 0 (MQ below (xQi D cy xmb a S' v' s.heap.size) args s 0 0 (xA xmb a s.heap.size)) (F0 m 31 ls [])) {H : Heap} {locs : List Loc} (hG : xG D cy xmb a S s H locs) {ls : Array Slot} (hl : lv_has ls 4 [(0, .ref (a 0)), (1, .int x1), (2, .int x2), (3, .int x3)]) : W p l e ({ frames := 7, cells := 0, slots := 0, locals := 157 } : Room) s m args below meth c H locs 0 0 (MQ below (xQi D cy xmb a S' v' s.heap.size) args s 0 0 (xA xmb a s.heap.size)) (F0 m 31 ls []) := by
  have hx := hM.1
  have hb := hM.2.1
  refine lv_iload_n hx hb dX12_first_31 rfl (lv_at hl 3 rfl) ?_
  refine lv_bipush (v := (40 : Int32)) hx hb dX12_first_32 (by decide) ?_
  refine x_icmp_gt (tgt := 70) hM h dX12_first_34 (by decide) (fun c_1 h => ?_) (fun c_1 h => ?_)
  · refine lv_bipush (v := (-2 : Int32)) hx hb dX12_first_70 (by decide) ?_
    exact x_ri hM hG hr hlk rfl (k0 _ (Option.some.inj h).symm) dX12_first_72
  · refine lv_iload_n hx hb dX12_first_37 rfl (lv_at hl 1 rfl) ?_
    refine x_if_ge (tgt := 48) hM h dX12_first_38 (by decide) (fun c_2 h => ?_) (fun c_2 h => ?_)
    · refine lv_aload_n hx hb dX12_first_48 rfl (lv_at hl 0 rfl) ?_
      refine x_gr (r := 24) hM hG xfl_X12_83 xmt_0 (by decide) rfl dX12_first_49 ?_
      refine lv_iload_n hx hb dX12_first_52 rfl (lv_at hl 1 rfl) ?_
      refine x_iald hM hG xmt_24 h dX12_first_53 (fun v_3 h => ?_)
      exact w_X12_first_54 hM hr hlk h (fun t0 e => k0 t0 e) (fun S x3 e => k1 S x3 e) hG (lv_sub hl [0, 1, 2, 3] rfl)
    · refine lv_aload_n hx hb dX12_first_41 rfl (lv_at hl 0 rfl) ?_
      refine x_cVi (As := []) (rest := []) hM hG xml_X12_295 xwi_X12_hottestHeat xws_X12_hottestHeat xmt_0 (by decide) rfl h (fun S' v e => c_X12_hottestHeat hM.2.2.2.2.2.2.1 e _) ⟨Nat.le_of_ble_eq_true rfl, Nat.le_of_ble_eq_true rfl⟩ rfl hl.1 rfl (Nat.le_of_ble_eq_true rfl) dX12_first_42 (fun S_4 v_5 H locs h hG => ?_)
      refine lv_goto (tgt := 54) hx hb dX12_first_45 (by decide) ?_
      exact w_X12_first_54 hM hr hlk h (fun t0 e => k0 t0 e) (fun S x3 e => k1 S x3 e) hG (lv_sub hl [0, 1, 2, 3] rfl)
theorem wl_X12_first_31 {x1 : Int32} {x2 : Int32} (hM : xM p c cX12_first m s args RX12 4 D cy xmb a z) (hr : meth.sig.returnType = (some .int)) (hlk : meth.locks = false) {S' : xSt} {v' : Int32} {q : (xSt × Int32)} (k0 : ∀ t0 : xSt × Int32, q = t0 → t0 = (S', v')) (n : Nat) : ∀ (S : xSt) (x3 : Int32) (H : Heap) (locs : List Loc) (ls : Array Slot), xlp (fun q : (xSt × Int32) => f_X12_first_31 x1 x2 q.1 q.2) n (S, x3) = some q → xG D cy xmb a S s H locs → lv_has ls 4 [(0, .ref (a 0)), (1, .int x1), (2, .int x2), (3, .int x3)] → W p l e ({ frames := 7, cells := 0, slots := 0, locals := 157 } : Room) s m args below meth c H locs 0 0 (MQ below (xQi D cy xmb a S' v' s.heap.size) args s 0 0 (xA xmb a s.heap.size)) (F0 m 31 ls []) := by
  induction n with
  | zero => intro S x3 H locs ls h; exact (xlp_0 h).elim
  | succ n ih =>
    intro S x3 H locs ls h hG hl
    obtain ⟨q1, hq, hc, he⟩ := xlp_at h
    exact w_X12_first_31 hM hr hlk (q := q1) hq (fun t0 e => k0 t0 (he _ e).symm) (fun S x3 e H locs ls hG hl => ih S x3 H locs ls (hc _ e) hG hl) hG hl
set_option maxHeartbeats 4000000 in
set_option maxRecDepth 100000 in
theorem w_X12_first_13 {x1 : Int32} {x2 : Int32} (hM : xM p c cX12_first m s args RX12 4 D cy xmb a z) (hr : meth.sig.returnType = (some .int)) (hlk : meth.locks = false) {S' : xSt} {v' : Int32} {S : xSt} {q : (xSt × Int32)} (h : f_X12_first_13 x1 x2 S = some q) (k0 : ∀ t0 : xSt × Int32, q = t0 → t0 = (S', v')) {H : Heap} {locs : List Loc} (hG : xG D cy xmb a S s H locs) {ls : Array Slot} (hl : lv_has ls 4 [(0, .ref (a 0)), (1, .int x1), (2, .int x2)]) : W p l e ({ frames := 7, cells := 0, slots := 0, locals := 157 } : Room) s m args below meth c H locs 0 0 (MQ below (xQi D cy xmb a S' v' s.heap.size) args s 0 0 (xA xmb a s.heap.size)) (F0 m 13 ls []) := by
  have hx := hM.1
  have hb := hM.2.1
  refine lv_iload_n hx hb dX12_first_13 rfl (lv_at hl 2 rfl) ?_
  refine lv_iconst (v := (0 : Int32)) hx hb dX12_first_14 (by decide) ?_
  refine lv_bipush (v := (99 : Int32)) hx hb dX12_first_15 (by decide) ?_
  refine x_cSi (As := [.int x2, .int (0 : Int32), .int (99 : Int32)]) (rest := []) hM hG xml_X12_142 xwt_X12_in h (fun S' v e => c_X12_in hM.2.2.2.2.2.2.1 e _) ⟨Nat.le_of_ble_eq_true rfl, Nat.le_of_ble_eq_true rfl⟩ rfl hl.1 rfl (Nat.le_of_ble_eq_true rfl) dX12_first_17 (fun S_1 v_2 H locs h hG => ?_)
  refine x_if_ne (tgt := 25) hM h dX12_first_20 (by decide) (fun c_3 h => ?_) (fun c_3 h => ?_)
  · refine lv_aload_n hx hb dX12_first_25 rfl (lv_at hl 0 rfl) ?_
    refine x_cVv (As := []) (rest := []) hM hG xml_X12_273 xwi_X12_layNow xws_X12_layNow xmt_0 (by decide) rfl h (fun S' v e => c_X12_layNow hM.2.2.2.2.2.2.1 e _) ⟨Nat.le_of_ble_eq_true rfl, Nat.le_of_ble_eq_true rfl⟩ rfl hl.1 rfl (Nat.le_of_ble_eq_true rfl) dX12_first_26 (fun S_4 v_5 H locs h hG => ?_)
    refine lv_iconst (v := (0 : Int32)) hx hb dX12_first_29 (by decide) ?_
    refine lv_istore_n (lv' := [(3, .int (0 : Int32)), (0, .ref (a 0)), (1, .int x1), (2, .int x2)]) hx hb dX12_first_30 rfl hl (by decide) rfl (fun ls hl => ?_)
    exact wl_X12_first_31 hM hr hlk (fun t0 e => k0 t0 e) 5000 _ _ _ _ _ h hG (lv_sub hl [1, 2, 3, 0] rfl)
  · refine lv_iconst (v := (-1 : Int32)) hx hb dX12_first_23 (by decide) ?_
    exact x_ri hM hG hr hlk rfl (k0 _ (Option.some.inj h).symm) dX12_first_24
set_option maxHeartbeats 4000000 in
set_option maxRecDepth 100000 in
theorem w_X12_first_0 {x1 : Int32} {x2 : Int32} (hM : xM p c cX12_first m s args RX12 4 D cy xmb a z) (hr : meth.sig.returnType = (some .int)) (hlk : meth.locks = false) {S' : xSt} {v' : Int32} {S : xSt} {q : (xSt × Int32)} (h : f_X12_first_0 x1 x2 S = some q) (k0 : ∀ t0 : xSt × Int32, q = t0 → t0 = (S', v')) {H : Heap} {locs : List Loc} (hG : xG D cy xmb a S s H locs) {ls : Array Slot} (hl : lv_has ls 4 [(0, .ref (a 0)), (1, .int x1), (2, .int x2)]) : W p l e ({ frames := 7, cells := 0, slots := 0, locals := 157 } : Room) s m args below meth c H locs 0 0 (MQ below (xQi D cy xmb a S' v' s.heap.size) args s 0 0 (xA xmb a s.heap.size)) (F0 m 0 ls []) := by
  have hx := hM.1
  have hb := hM.2.1
  refine lv_iload_n hx hb dX12_first_0 rfl (lv_at hl 1 rfl) ?_
  refine lv_iconst (v := (-1 : Int32)) hx hb dX12_first_1 (by decide) ?_
  refine x_icmp_eq (tgt := 13) hM h dX12_first_2 (by decide) (fun c_1 h => ?_) (fun c_1 h => ?_)
  · exact w_X12_first_13 hM hr hlk h (fun t0 e => k0 t0 e) hG (lv_sub hl [0, 1, 2] rfl)
  · refine lv_aload_n hx hb dX12_first_5 rfl (lv_at hl 0 rfl) ?_
    refine lv_iload_n hx hb dX12_first_6 rfl (lv_at hl 1 rfl) ?_
    refine x_cVi (As := [.int x1]) (rest := []) hM hG xml_X12_173 xwi_X12_isCell xws_X12_isCell xmt_0 (by decide) rfl h (fun S' v e => c_X12_isCell hM.2.2.2.2.2.2.1 e _) ⟨Nat.le_of_ble_eq_true rfl, Nat.le_of_ble_eq_true rfl⟩ rfl hl.1 rfl (Nat.le_of_ble_eq_true rfl) dX12_first_7 (fun S_2 v_3 H locs h hG => ?_)
    refine x_if_eq (tgt := 23) hM h dX12_first_10 (by decide) (fun c_4 h => ?_) (fun c_4 h => ?_)
    · refine lv_iconst (v := (-1 : Int32)) hx hb dX12_first_23 (by decide) ?_
      exact x_ri hM hG hr hlk rfl (k0 _ (Option.some.inj h).symm) dX12_first_24
    · exact w_X12_first_13 hM hr hlk h (fun t0 e => k0 t0 e) hG (lv_sub hl [0, 1, 2] rfl)
set_option maxHeartbeats 4000000 in
set_option maxRecDepth 100000 in
theorem c_X12_first {l : Launch} {D : va_G} {cy : Nat → ClassId} {a z : Nat → Nat} (hI : xI xmb a) {S : xSt} {x1 : Int32} {x2 : Int32} {S' : xSt} {v' : Int32} (hf : f_X12_first S x1 x2 = some (S', v')) (sz : Nat) : Met l yX12_first (Cond.code yX12_first cX12_first 4 (some .int) :: xTB) ({ frames := 7, cells := 0, slots := 0, locals := 157 } : Room) (va_Pc [.ref (a 0), .int x1, .int x2] (xPre D cy xmb a z S sz)) (xQi D cy xmb a S' v' sz) 0 0 (xA xmb a sz) := by
  refine Met.ofW (cc := cX12_first) (maxL := 4) (ret := (some .int)) (by decide) rfl ?_
  intro p e s m args below meth c s₁ B hml hv
  obtain ⟨rfl, hsz, hP, hK, hE⟩ := hv
  subst hsz
  have hl := lv_entry ([.ref (a 0), .int x1, .int x2]) (n := 4) (Nat.le_of_ble_eq_true rfl)
  rw [lg_entry_eq]
  generalize (lg_sl ([.ref (a 0), .int x1, .int x2]) ++ List.replicate (4 - (lg_sl ([.ref (a 0), .int x1, .int x2])).length) Slot.unset).toArray = ls at hl ⊢
  have hl : lv_has ls 4 [(0, .ref (a 0)), (1, .int x1), (2, .int x2)] := hl
  exact w_X12_first_0 ⟨B.exec, B.bytes, hml, findClass_of_methodNamed B.named, fun w hw => atoms_spec (ws := Cond.code yX12_first cX12_first 4 (some .int) :: xTB) B.pre w (List.mem_cons_of_mem _ hw), hK, hI, hE⟩ B.returns B.notSynchronized hf (fun t0 e => e.symm) ⟨hP, va_S.rf⟩ (lv_sub hl [0, 1, 2] rfl)
set_option maxHeartbeats 4000000 in
set_option maxRecDepth 100000 in
theorem w_X12_reachOf_35 {x1 : Int32} {x2 : Int64} {x4 : Int32} (hM : xM p c cX12_reachOf m s args RX12 5 D cy xmb a z) (hr : meth.sig.returnType = (some .long)) (hlk : meth.locks = false) {S' : xSt} {v' : Int64} {S : xSt} {q : ((xSt × Int64 × Int32) ⊕ (xSt × Int64))} (h : f_X12_reachOf_35 x1 x2 x4 S = some q) (k0 : ∀ t0 : xSt × Int64, q = (.inr t0) → t0 = (S', v')) (k1 : ∀ (S : xSt) (x2 : Int64) (x4 : Int32), q = (.inl (S, x2, x4)) → ∀ (H : Heap) (locs : List Loc) (ls : Array Slot), xG D cy xmb a S s H locs → lv_has ls 5 [(0, .ref (a 0)), (1, .int x1), (2, .long x2), (4, .int x4)] → W p l e ({ frames := 4, cells := 0, slots := 0, locals := 88 } : Room) s m args below meth c H locs 0 0 (MQ below (xQl D cy xmb a S' v' s.heap.size) args s 0 0 (xA xmb a s.heap.size)) (F0 m 7 ls [])) {H : Heap} {locs : List Loc} (hG : xG D cy xmb a S s H locs) {ls : Array Slot} (hl : lv_has ls 5 [(0, .ref (a 0)), (1, .int x1), (2, .long x2), (4, .int x4)]) : W p l e ({ frames := 4, cells := 0, slots := 0, locals := 88 } : Room) s m args below meth c H locs 0 0 (MQ below (xQl D cy xmb a S' v' s.heap.size) args s 0 0 (xA xmb a s.heap.size)) (F0 m 35 ls []) := by
  have hx := hM.1
  have hb := hM.2.1
  refine x_iinc hM (fun v => [(4, .int v), (0, .ref (a 0)), (1, .int x1), (2, .long x2)]) h dX12_reachOf_35 hl (k := 3) rfl (by decide) (by decide) (fun _ => rfl) (fun v_1 ls h hl => ?_)
  refine lv_goto (tgt := 7) hx hb dX12_reachOf_38 (by decide) ?_
  exact k1 _ _ _ (Option.some.inj h).symm _ _ _ hG (lv_sub hl [1, 2, 3, 0] rfl)
set_option maxHeartbeats 4000000 in
set_option maxRecDepth 100000 in
theorem w_X12_reachOf_7 {x1 : Int32} {x2 : Int64} {x4 : Int32} (hM : xM p c cX12_reachOf m s args RX12 5 D cy xmb a z) (hr : meth.sig.returnType = (some .long)) (hlk : meth.locks = false) {S' : xSt} {v' : Int64} {S : xSt} {q : ((xSt × Int64 × Int32) ⊕ (xSt × Int64))} (h : f_X12_reachOf_7 x1 S x2 x4 = some q) (k0 : ∀ t0 : xSt × Int64, q = (.inr t0) → t0 = (S', v')) (k1 : ∀ (S : xSt) (x2 : Int64) (x4 : Int32), q = (.inl (S, x2, x4)) → ∀ (H : Heap) (locs : List Loc) (ls : Array Slot), xG D cy xmb a S s H locs → lv_has ls 5 [(0, .ref (a 0)), (1, .int x1), (2, .long x2), (4, .int x4)] → W p l e ({ frames := 4, cells := 0, slots := 0, locals := 88 } : Room) s m args below meth c H locs 0 0 (MQ below (xQl D cy xmb a S' v' s.heap.size) args s 0 0 (xA xmb a s.heap.size)) (F0 m 7 ls [])) {H : Heap} {locs : List Loc} (hG : xG D cy xmb a S s H locs) {ls : Array Slot} (hl : lv_has ls 5 [(0, .ref (a 0)), (1, .int x1), (2, .long x2), (4, .int x4)]) : W p l e ({ frames := 4, cells := 0, slots := 0, locals := 88 } : Room) s m args below meth c H locs 0 0 (MQ below (xQl D cy xmb a S' v' s.heap.size) args s 0 0 (xA xmb a s.heap.size)) (F0 m 7 ls []) := by
  have hx := hM.1
  have hb := hM.2.1
  refine lv_iload hx hb dX12_reachOf_7 (lv_at hl 3 rfl) ?_
  refine lv_iconst (v := (4 : Int32)) hx hb dX12_reachOf_9 (by decide) ?_
  refine x_icmp_ge (tgt := 41) hM h dX12_reachOf_10 (by decide) (fun c_1 h => ?_) (fun c_1 h => ?_)
  · refine lv_lload_n hx hb dX12_reachOf_41 rfl (lv_at hl 2 rfl) ?_
    exact x_rl hM hG hr hlk (k0 _ (Option.some.inj h).symm) dX12_reachOf_42
  · refine lv_aload_n hx hb dX12_reachOf_13 rfl (lv_at hl 0 rfl) ?_
    refine lv_iload_n hx hb dX12_reachOf_14 rfl (lv_at hl 1 rfl) ?_
    refine lv_iload hx hb dX12_reachOf_15 (lv_at hl 3 rfl) ?_
    refine x_cVi (As := [.int x1, .int x4]) (rest := []) hM hG xml_X12_260 xwi_X12_beside xws_X12_beside xmt_0 (by decide) rfl h (fun S' v e => c_X12_beside hM.2.2.2.2.2.2.1 e _) ⟨Nat.le_of_ble_eq_true rfl, Nat.le_of_ble_eq_true rfl⟩ rfl hl.1 rfl (Nat.le_of_ble_eq_true rfl) dX12_reachOf_17 (fun S_2 v_3 H locs h hG => ?_)
    refine x_if_lt (tgt := 35) hM h dX12_reachOf_20 (by decide) (fun c_4 h => ?_) (fun c_4 h => ?_)
    · exact w_X12_reachOf_35 hM hr hlk h (fun t0 e => k0 t0 e) (fun S x2 x4 e => k1 S x2 x4 e) hG (lv_sub hl [0, 1, 2, 3] rfl)
    · refine lv_lload_n hx hb dX12_reachOf_23 rfl (lv_at hl 2 rfl) ?_
      refine lv_lconst (v := (1 : Int64)) hx hb dX12_reachOf_24 (by decide) ?_
      refine lv_aload_n hx hb dX12_reachOf_25 rfl (lv_at hl 0 rfl) ?_
      refine lv_iload_n hx hb dX12_reachOf_26 rfl (lv_at hl 1 rfl) ?_
      refine lv_iload hx hb dX12_reachOf_27 (lv_at hl 3 rfl) ?_
      refine x_cVi (As := [.int x1, .int x4]) (rest := [.long (1 : Int64), .long x2]) hM hG xml_X12_260 xwi_X12_beside xws_X12_beside xmt_0 (by decide) rfl h (fun S' v e => c_X12_beside hM.2.2.2.2.2.2.1 e _) ⟨Nat.le_of_ble_eq_true rfl, Nat.le_of_ble_eq_true rfl⟩ rfl hl.1 rfl (Nat.le_of_ble_eq_true rfl) dX12_reachOf_29 (fun S_5 v_6 H locs h hG => ?_)
      refine x_lshl hM h dX12_reachOf_32 (fun v_7 h => ?_)
      refine x_lor hM h dX12_reachOf_33 (fun v_8 h => ?_)
      refine lv_lstore_n (lv' := [(2, .long v_8), (0, .ref (a 0)), (1, .int x1), (4, .int x4)]) hx hb dX12_reachOf_34 rfl hl (by decide) rfl (fun ls hl => ?_)
      exact w_X12_reachOf_35 hM hr hlk h (fun t0 e => k0 t0 e) (fun S x2 x4 e => k1 S x2 x4 e) hG (lv_sub hl [1, 2, 0, 3] rfl)
theorem wl_X12_reachOf_7 {x1 : Int32} (hM : xM p c cX12_reachOf m s args RX12 5 D cy xmb a z) (hr : meth.sig.returnType = (some .long)) (hlk : meth.locks = false) {S' : xSt} {v' : Int64} {q : (xSt × Int64)} (k0 : ∀ t0 : xSt × Int64, q = t0 → t0 = (S', v')) (n : Nat) : ∀ (S : xSt) (x2 : Int64) (x4 : Int32) (H : Heap) (locs : List Loc) (ls : Array Slot), xlp (fun q : (xSt × Int64 × Int32) => f_X12_reachOf_7 x1 q.1 q.2.1 q.2.2) n (S, x2, x4) = some q → xG D cy xmb a S s H locs → lv_has ls 5 [(0, .ref (a 0)), (1, .int x1), (2, .long x2), (4, .int x4)] → W p l e ({ frames := 4, cells := 0, slots := 0, locals := 88 } : Room) s m args below meth c H locs 0 0 (MQ below (xQl D cy xmb a S' v' s.heap.size) args s 0 0 (xA xmb a s.heap.size)) (F0 m 7 ls []) := by
  induction n with
  | zero => intro S x2 x4 H locs ls h; exact (xlp_0 h).elim
  | succ n ih =>
    intro S x2 x4 H locs ls h hG hl
    obtain ⟨q1, hq, hc, he⟩ := xlp_at h
    exact w_X12_reachOf_7 hM hr hlk (q := q1) hq (fun t0 e => k0 t0 (he _ e).symm) (fun S x2 x4 e H locs ls hG hl => ih S x2 x4 H locs ls (hc _ e) hG hl) hG hl
set_option maxHeartbeats 4000000 in
set_option maxRecDepth 100000 in
theorem w_X12_reachOf_0 {x1 : Int32} (hM : xM p c cX12_reachOf m s args RX12 5 D cy xmb a z) (hr : meth.sig.returnType = (some .long)) (hlk : meth.locks = false) {S' : xSt} {v' : Int64} {S : xSt} {q : (xSt × Int64)} (h : f_X12_reachOf_0 x1 S = some q) (k0 : ∀ t0 : xSt × Int64, q = t0 → t0 = (S', v')) {H : Heap} {locs : List Loc} (hG : xG D cy xmb a S s H locs) {ls : Array Slot} (hl : lv_has ls 5 [(0, .ref (a 0)), (1, .int x1)]) : W p l e ({ frames := 4, cells := 0, slots := 0, locals := 88 } : Room) s m args below meth c H locs 0 0 (MQ below (xQl D cy xmb a S' v' s.heap.size) args s 0 0 (xA xmb a s.heap.size)) (F0 m 0 ls []) := by
  have hx := hM.1
  have hb := hM.2.1
  refine lv_lconst (v := (1 : Int64)) hx hb dX12_reachOf_0 (by decide) ?_
  refine lv_iload_n hx hb dX12_reachOf_1 rfl (lv_at hl 1 rfl) ?_
  refine x_lshl hM h dX12_reachOf_2 (fun v_1 h => ?_)
  refine lv_lstore_n (lv' := [(2, .long v_1), (0, .ref (a 0)), (1, .int x1)]) hx hb dX12_reachOf_3 rfl hl (by decide) rfl (fun ls hl => ?_)
  refine lv_iconst (v := (0 : Int32)) hx hb dX12_reachOf_4 (by decide) ?_
  refine lv_istore (lv' := [(4, .int (0 : Int32)), (2, .long v_1), (0, .ref (a 0)), (1, .int x1)]) hx hb dX12_reachOf_5 hl (by decide) rfl (fun ls hl => ?_)
  exact wl_X12_reachOf_7 hM hr hlk (fun t0 e => k0 t0 e) 5000 _ _ _ _ _ _ h hG (lv_sub hl [2, 3, 1, 0] rfl)
set_option maxHeartbeats 4000000 in
set_option maxRecDepth 100000 in
theorem c_X12_reachOf {l : Launch} {D : va_G} {cy : Nat → ClassId} {a z : Nat → Nat} (hI : xI xmb a) {S : xSt} {x1 : Int32} {S' : xSt} {v' : Int64} (hf : f_X12_reachOf S x1 = some (S', v')) (sz : Nat) : Met l yX12_reachOf (Cond.code yX12_reachOf cX12_reachOf 5 (some .long) :: xTB) ({ frames := 4, cells := 0, slots := 0, locals := 88 } : Room) (va_Pc [.ref (a 0), .int x1] (xPre D cy xmb a z S sz)) (xQl D cy xmb a S' v' sz) 0 0 (xA xmb a sz) := by
  refine Met.ofW (cc := cX12_reachOf) (maxL := 5) (ret := (some .long)) (by decide) rfl ?_
  intro p e s m args below meth c s₁ B hml hv
  obtain ⟨rfl, hsz, hP, hK, hE⟩ := hv
  subst hsz
  have hl := lv_entry ([.ref (a 0), .int x1]) (n := 5) (Nat.le_of_ble_eq_true rfl)
  rw [lg_entry_eq]
  generalize (lg_sl ([.ref (a 0), .int x1]) ++ List.replicate (5 - (lg_sl ([.ref (a 0), .int x1])).length) Slot.unset).toArray = ls at hl ⊢
  have hl : lv_has ls 5 [(0, .ref (a 0)), (1, .int x1)] := hl
  exact w_X12_reachOf_0 ⟨B.exec, B.bytes, hml, findClass_of_methodNamed B.named, fun w hw => atoms_spec (ws := Cond.code yX12_reachOf cX12_reachOf 5 (some .long) :: xTB) B.pre w (List.mem_cons_of_mem _ hw), hK, hI, hE⟩ B.returns B.notSynchronized hf (fun t0 e => e.symm) ⟨hP, va_S.rf⟩ (lv_sub hl [0, 1] rfl)
set_option maxHeartbeats 4000000 in
set_option maxRecDepth 100000 in
theorem w_X12_goRods_38 {d : Nat} {g_X12_goRods : xSt → Int32 → Int32 → Int64 → Int64 → Option (xSt × Unit)} (hg_X12_goRods : ∀ (S : xSt) (x1 : Int32) (x2 : Int32) (x3 : Int64) (x5 : Int64) (S' : xSt) (v' : Unit), g_X12_goRods S x1 x2 x3 x5 = some (S', v') → ∀ sz : Nat, Met l yX12_goRods (Cond.code yX12_goRods cX12_goRods 8 none :: xTB) ({ frames := 5 + d, cells := 0, slots := 0, locals := 112 + d * 27 } : Room) (va_Pc [.ref (a 0), .int x1, .int x2, .long x3, .long x5] (xPre D cy xmb a z S sz)) (xQv D cy xmb a S' v' sz) 0 0 (xA xmb a sz)) {x3 : Int64} (hM : xM p c cX12_goRods m s args RX12 8 D cy xmb a z) (hr : meth.sig.returnType = none) (hlk : meth.locks = false) {S' : xSt} {v' : Unit} {S : xSt} {q : (xSt × Unit)} (h : f_X12_goRods_38 g_X12_goRods x3 S = some q) (k0 : ∀ t0 : xSt × Unit, q = t0 → t0 = (S', v')) {H : Heap} {locs : List Loc} (hG : xG D cy xmb a S s H locs) {ls : Array Slot} (hl : lv_has ls 8 [(0, .ref (a 0)), (3, .long x3)]) : W p l e ({ frames := 5 + (d + 1), cells := 0, slots := 0, locals := 112 + (d + 1) * 27 } : Room) s m args below meth c H locs 0 0 (MQ below (xQv D cy xmb a S' v' s.heap.size) args s 0 0 (xA xmb a s.heap.size)) (F0 m 38 ls []) := by
  have hx := hM.1
  have hb := hM.2.1
  refine lv_aload_n hx hb dX12_goRods_38 rfl (lv_at hl 0 rfl) ?_
  refine lv_lload_n hx hb dX12_goRods_39 rfl (lv_at hl 1 rfl) ?_
  refine x_pl hM hG xfl_X12_310 xfp_X12_38 xmt_0 (by decide) rfl h dX12_goRods_40 (fun S_1 H locs h hG => ?_)
  exact x_rv hM hG hr hlk (k0 _ (Option.some.inj h).symm) dX12_goRods_43
set_option maxHeartbeats 4000000 in
set_option maxRecDepth 100000 in
theorem w_X12_goRods_94 {d : Nat} {g_X12_goRods : xSt → Int32 → Int32 → Int64 → Int64 → Option (xSt × Unit)} (hg_X12_goRods : ∀ (S : xSt) (x1 : Int32) (x2 : Int32) (x3 : Int64) (x5 : Int64) (S' : xSt) (v' : Unit), g_X12_goRods S x1 x2 x3 x5 = some (S', v') → ∀ sz : Nat, Met l yX12_goRods (Cond.code yX12_goRods cX12_goRods 8 none :: xTB) ({ frames := 5 + d, cells := 0, slots := 0, locals := 112 + d * 27 } : Room) (va_Pc [.ref (a 0), .int x1, .int x2, .long x3, .long x5] (xPre D cy xmb a z S sz)) (xQv D cy xmb a S' v' sz) 0 0 (xA xmb a sz)) {x1 : Int32} {x3 : Int64} {x5 : Int64} {x7 : Int32} (hM : xM p c cX12_goRods m s args RX12 8 D cy xmb a z) (hr : meth.sig.returnType = none) (hlk : meth.locks = false) {S' : xSt} {v' : Unit} {S : xSt} {q : ((xSt × Int32) ⊕ (xSt × Unit))} (h : f_X12_goRods_94 g_X12_goRods x1 x3 x5 x7 S = some q) (k0 : ∀ t0 : xSt × Unit, q = (.inr t0) → t0 = (S', v')) (k1 : ∀ (S : xSt) (x7 : Int32), q = (.inl (S, x7)) → ∀ (H : Heap) (locs : List Loc) (ls : Array Slot), xG D cy xmb a S s H locs → lv_has ls 8 [(0, .ref (a 0)), (1, .int x1), (3, .long x3), (5, .long x5), (7, .int x7)] → W p l e ({ frames := 5 + (d + 1), cells := 0, slots := 0, locals := 112 + (d + 1) * 27 } : Room) s m args below meth c H locs 0 0 (MQ below (xQv D cy xmb a S' v' s.heap.size) args s 0 0 (xA xmb a s.heap.size)) (F0 m 52 ls [])) {H : Heap} {locs : List Loc} (hG : xG D cy xmb a S s H locs) {ls : Array Slot} (hl : lv_has ls 8 [(0, .ref (a 0)), (1, .int x1), (3, .long x3), (5, .long x5), (7, .int x7)]) : W p l e ({ frames := 5 + (d + 1), cells := 0, slots := 0, locals := 112 + (d + 1) * 27 } : Room) s m args below meth c H locs 0 0 (MQ below (xQv D cy xmb a S' v' s.heap.size) args s 0 0 (xA xmb a s.heap.size)) (F0 m 94 ls []) := by
  have hx := hM.1
  have hb := hM.2.1
  refine x_iinc hM (fun v => [(7, .int v), (0, .ref (a 0)), (1, .int x1), (3, .long x3), (5, .long x5)]) h dX12_goRods_94 hl (k := 4) rfl (by decide) (by decide) (fun _ => rfl) (fun v_1 ls h hl => ?_)
  refine lv_goto (tgt := 52) hx hb dX12_goRods_97 (by decide) ?_
  exact k1 _ _ (Option.some.inj h).symm _ _ _ hG (lv_sub hl [1, 2, 3, 4, 0] rfl)
set_option maxHeartbeats 4000000 in
set_option maxRecDepth 100000 in
theorem w_X12_goRods_52 {d : Nat} {g_X12_goRods : xSt → Int32 → Int32 → Int64 → Int64 → Option (xSt × Unit)} (hg_X12_goRods : ∀ (S : xSt) (x1 : Int32) (x2 : Int32) (x3 : Int64) (x5 : Int64) (S' : xSt) (v' : Unit), g_X12_goRods S x1 x2 x3 x5 = some (S', v') → ∀ sz : Nat, Met l yX12_goRods (Cond.code yX12_goRods cX12_goRods 8 none :: xTB) ({ frames := 5 + d, cells := 0, slots := 0, locals := 112 + d * 27 } : Room) (va_Pc [.ref (a 0), .int x1, .int x2, .long x3, .long x5] (xPre D cy xmb a z S sz)) (xQv D cy xmb a S' v' sz) 0 0 (xA xmb a sz)) {x1 : Int32} {x3 : Int64} {x5 : Int64} {x7 : Int32} (hM : xM p c cX12_goRods m s args RX12 8 D cy xmb a z) (hr : meth.sig.returnType = none) (hlk : meth.locks = false) {S' : xSt} {v' : Unit} {S : xSt} {q : ((xSt × Int32) ⊕ (xSt × Unit))} (h : f_X12_goRods_52 g_X12_goRods x1 x3 x5 S x7 = some q) (k0 : ∀ t0 : xSt × Unit, q = (.inr t0) → t0 = (S', v')) (k1 : ∀ (S : xSt) (x7 : Int32), q = (.inl (S, x7)) → ∀ (H : Heap) (locs : List Loc) (ls : Array Slot), xG D cy xmb a S s H locs → lv_has ls 8 [(0, .ref (a 0)), (1, .int x1), (3, .long x3), (5, .long x5), (7, .int x7)] → W p l e ({ frames := 5 + (d + 1), cells := 0, slots := 0, locals := 112 + (d + 1) * 27 } : Room) s m args below meth c H locs 0 0 (MQ below (xQv D cy xmb a S' v' s.heap.size) args s 0 0 (xA xmb a s.heap.size)) (F0 m 52 ls [])) {H : Heap} {locs : List Loc} (hG : xG D cy xmb a S s H locs) {ls : Array Slot} (hl : lv_has ls 8 [(0, .ref (a 0)), (1, .int x1), (3, .long x3), (5, .long x5), (7, .int x7)]) : W p l e ({ frames := 5 + (d + 1), cells := 0, slots := 0, locals := 112 + (d + 1) * 27 } : Room) s m args below meth c H locs 0 0 (MQ below (xQv D cy xmb a S' v' s.heap.size) args s 0 0 (xA xmb a s.heap.size)) (F0 m 52 ls []) := by
  have hx := hM.1
  have hb := hM.2.1
  refine lv_iload hx hb dX12_goRods_52 (lv_at hl 4 rfl) ?_
  refine lv_bipush (v := (30 : Int32)) hx hb dX12_goRods_54 (by decide) ?_
  refine x_icmp_ge (tgt := 100) hM h dX12_goRods_56 (by decide) (fun c_1 h => ?_) (fun c_1 h => ?_)
  · exact x_rv hM hG hr hlk (k0 _ (Option.some.inj h).symm) dX12_goRods_100
  · refine lv_aload_n hx hb dX12_goRods_59 rfl (lv_at hl 0 rfl) ?_
    refine lv_iload hx hb dX12_goRods_60 (lv_at hl 4 rfl) ?_
    refine x_cVi (As := [.int x7]) (rest := []) hM hG xml_X12_279 xwi_X12_isThereNow xws_X12_isThereNow xmt_0 (by decide) rfl h (fun S' v e => c_X12_isThereNow hM.2.2.2.2.2.2.1 e _) ⟨by show _ ≤ 5 + (d + 1); omega, by show _ ≤ 112 + (d + 1) * 27; omega⟩ rfl hl.1 rfl (Nat.le_of_ble_eq_true rfl) dX12_goRods_62 (fun S_2 v_3 H locs h hG => ?_)
    refine x_if_eq (tgt := 94) hM h dX12_goRods_65 (by decide) (fun c_4 h => ?_) (fun c_4 h => ?_)
    · exact w_X12_goRods_94 hg_X12_goRods hM hr hlk h (fun t0 e => k0 t0 e) (fun S x7 e => k1 S x7 e) hG (lv_sub hl [0, 1, 2, 3, 4] rfl)
    · refine lv_aload_n hx hb dX12_goRods_68 rfl (lv_at hl 0 rfl) ?_
      refine lv_iload_n hx hb dX12_goRods_69 rfl (lv_at hl 1 rfl) ?_
      refine lv_iconst (v := (1 : Int32)) hx hb dX12_goRods_70 (by decide) ?_
      refine x_isub hM h dX12_goRods_71 (fun v_5 h => ?_)
      refine lv_iload hx hb dX12_goRods_72 (lv_at hl 4 rfl) ?_
      refine lv_iconst (v := (1 : Int32)) hx hb dX12_goRods_74 (by decide) ?_
      refine x_iadd hM h dX12_goRods_75 (fun v_6 h => ?_)
      refine lv_lload_n hx hb dX12_goRods_76 rfl (lv_at hl 2 rfl) ?_
      refine lv_lconst (v := (1 : Int64)) hx hb dX12_goRods_77 (by decide) ?_
      refine lv_iload hx hb dX12_goRods_78 (lv_at hl 4 rfl) ?_
      refine x_lshl hM h dX12_goRods_80 (fun v_7 h => ?_)
      refine x_lor hM h dX12_goRods_81 (fun v_8 h => ?_)
      refine lv_lload hx hb dX12_goRods_82 (lv_at hl 3 rfl) ?_
      refine lv_aload_n hx hb dX12_goRods_84 rfl (lv_at hl 0 rfl) ?_
      refine lv_iload hx hb dX12_goRods_85 (lv_at hl 4 rfl) ?_
      refine x_cVl (As := [.int x7]) (rest := [.long x5, .long v_8, .int v_6, .int v_5, .ref (a 0)]) hM hG xml_X12_313 xwi_X12_reachOf xws_X12_reachOf xmt_0 (by decide) rfl h (fun S' v e => c_X12_reachOf hM.2.2.2.2.2.2.1 e _) ⟨by show _ ≤ 5 + (d + 1); omega, by show _ ≤ 112 + (d + 1) * 27; omega⟩ rfl hl.1 rfl (Nat.le_of_ble_eq_true rfl) dX12_goRods_87 (fun S_9 v_10 H locs h hG => ?_)
      refine x_lor hM h dX12_goRods_90 (fun v_11 h => ?_)
      refine x_cVv (As := [.int v_5, .int v_6, .long v_8, .long v_11]) (rest := []) hM hG xml_X12_317 xwi_X12_goRods xws_X12_goRods xmt_0 (by decide) rfl h (fun S' v e => hg_X12_goRods _ _ _ _ _ _ _ e _) ⟨by show _ ≤ 5 + (d + 1); omega, by show _ ≤ 112 + (d + 1) * 27; omega⟩ rfl hl.1 rfl (Nat.le_of_ble_eq_true rfl) dX12_goRods_91 (fun S_12 v_13 H locs h hG => ?_)
      exact w_X12_goRods_94 hg_X12_goRods hM hr hlk h (fun t0 e => k0 t0 e) (fun S x7 e => k1 S x7 e) hG (lv_sub hl [0, 1, 2, 3, 4] rfl)
theorem wl_X12_goRods_52 {d : Nat} {g_X12_goRods : xSt → Int32 → Int32 → Int64 → Int64 → Option (xSt × Unit)} (hg_X12_goRods : ∀ (S : xSt) (x1 : Int32) (x2 : Int32) (x3 : Int64) (x5 : Int64) (S' : xSt) (v' : Unit), g_X12_goRods S x1 x2 x3 x5 = some (S', v') → ∀ sz : Nat, Met l yX12_goRods (Cond.code yX12_goRods cX12_goRods 8 none :: xTB) ({ frames := 5 + d, cells := 0, slots := 0, locals := 112 + d * 27 } : Room) (va_Pc [.ref (a 0), .int x1, .int x2, .long x3, .long x5] (xPre D cy xmb a z S sz)) (xQv D cy xmb a S' v' sz) 0 0 (xA xmb a sz)) {x1 : Int32} {x3 : Int64} {x5 : Int64} (hM : xM p c cX12_goRods m s args RX12 8 D cy xmb a z) (hr : meth.sig.returnType = none) (hlk : meth.locks = false) {S' : xSt} {v' : Unit} {q : (xSt × Unit)} (k0 : ∀ t0 : xSt × Unit, q = t0 → t0 = (S', v')) (n : Nat) : ∀ (S : xSt) (x7 : Int32) (H : Heap) (locs : List Loc) (ls : Array Slot), xlp (fun q : (xSt × Int32) => f_X12_goRods_52 g_X12_goRods x1 x3 x5 q.1 q.2) n (S, x7) = some q → xG D cy xmb a S s H locs → lv_has ls 8 [(0, .ref (a 0)), (1, .int x1), (3, .long x3), (5, .long x5), (7, .int x7)] → W p l e ({ frames := 5 + (d + 1), cells := 0, slots := 0, locals := 112 + (d + 1) * 27 } : Room) s m args below meth c H locs 0 0 (MQ below (xQv D cy xmb a S' v' s.heap.size) args s 0 0 (xA xmb a s.heap.size)) (F0 m 52 ls []) := by
  induction n with
  | zero => intro S x7 H locs ls h; exact (xlp_0 h).elim
  | succ n ih =>
    intro S x7 H locs ls h hG hl
    obtain ⟨q1, hq, hc, he⟩ := xlp_at h
    exact w_X12_goRods_52 hg_X12_goRods hM hr hlk (q := q1) hq (fun t0 e => k0 t0 (he _ e).symm) (fun S x7 e H locs ls hG hl => ih S x7 H locs ls (hc _ e) hG hl) hG hl
set_option maxHeartbeats 4000000 in
set_option maxRecDepth 100000 in
theorem w_X12_goRods_44 {d : Nat} {g_X12_goRods : xSt → Int32 → Int32 → Int64 → Int64 → Option (xSt × Unit)} (hg_X12_goRods : ∀ (S : xSt) (x1 : Int32) (x2 : Int32) (x3 : Int64) (x5 : Int64) (S' : xSt) (v' : Unit), g_X12_goRods S x1 x2 x3 x5 = some (S', v') → ∀ sz : Nat, Met l yX12_goRods (Cond.code yX12_goRods cX12_goRods 8 none :: xTB) ({ frames := 5 + d, cells := 0, slots := 0, locals := 112 + d * 27 } : Room) (va_Pc [.ref (a 0), .int x1, .int x2, .long x3, .long x5] (xPre D cy xmb a z S sz)) (xQv D cy xmb a S' v' sz) 0 0 (xA xmb a sz)) {x1 : Int32} {x2 : Int32} {x3 : Int64} {x5 : Int64} (hM : xM p c cX12_goRods m s args RX12 8 D cy xmb a z) (hr : meth.sig.returnType = none) (hlk : meth.locks = false) {S' : xSt} {v' : Unit} {S : xSt} {q : (xSt × Unit)} (h : f_X12_goRods_44 g_X12_goRods x1 x2 x3 x5 S = some q) (k0 : ∀ t0 : xSt × Unit, q = t0 → t0 = (S', v')) {H : Heap} {locs : List Loc} (hG : xG D cy xmb a S s H locs) {ls : Array Slot} (hl : lv_has ls 8 [(0, .ref (a 0)), (1, .int x1), (2, .int x2), (3, .long x3), (5, .long x5)]) : W p l e ({ frames := 5 + (d + 1), cells := 0, slots := 0, locals := 112 + (d + 1) * 27 } : Room) s m args below meth c H locs 0 0 (MQ below (xQv D cy xmb a S' v' s.heap.size) args s 0 0 (xA xmb a s.heap.size)) (F0 m 44 ls []) := by
  have hx := hM.1
  have hb := hM.2.1
  refine lv_iload_n hx hb dX12_goRods_44 rfl (lv_at hl 1 rfl) ?_
  refine x_if_ne (tgt := 49) hM h dX12_goRods_45 (by decide) (fun c_1 h => ?_) (fun c_1 h => ?_)
  · refine lv_iload_n hx hb dX12_goRods_49 rfl (lv_at hl 2 rfl) ?_
    refine lv_istore (lv' := [(7, .int x2), (0, .ref (a 0)), (1, .int x1), (2, .int x2), (3, .long x3), (5, .long x5)]) hx hb dX12_goRods_50 hl (by decide) rfl (fun ls hl => ?_)
    exact wl_X12_goRods_52 hg_X12_goRods hM hr hlk (fun t0 e => k0 t0 e) 5000 _ _ _ _ _ h hG (lv_sub hl [1, 2, 4, 5, 0] rfl)
  · exact x_rv hM hG hr hlk (k0 _ (Option.some.inj h).symm) dX12_goRods_48
set_option maxHeartbeats 4000000 in
set_option maxRecDepth 100000 in
theorem w_X12_goRods_0 {d : Nat} {g_X12_goRods : xSt → Int32 → Int32 → Int64 → Int64 → Option (xSt × Unit)} (hg_X12_goRods : ∀ (S : xSt) (x1 : Int32) (x2 : Int32) (x3 : Int64) (x5 : Int64) (S' : xSt) (v' : Unit), g_X12_goRods S x1 x2 x3 x5 = some (S', v') → ∀ sz : Nat, Met l yX12_goRods (Cond.code yX12_goRods cX12_goRods 8 none :: xTB) ({ frames := 5 + d, cells := 0, slots := 0, locals := 112 + d * 27 } : Room) (va_Pc [.ref (a 0), .int x1, .int x2, .long x3, .long x5] (xPre D cy xmb a z S sz)) (xQv D cy xmb a S' v' sz) 0 0 (xA xmb a sz)) {x1 : Int32} {x2 : Int32} {x3 : Int64} {x5 : Int64} (hM : xM p c cX12_goRods m s args RX12 8 D cy xmb a z) (hr : meth.sig.returnType = none) (hlk : meth.locks = false) {S' : xSt} {v' : Unit} {S : xSt} {q : (xSt × Unit)} (h : f_X12_goRods_0 g_X12_goRods x1 x2 x3 x5 S = some q) (k0 : ∀ t0 : xSt × Unit, q = t0 → t0 = (S', v')) {H : Heap} {locs : List Loc} (hG : xG D cy xmb a S s H locs) {ls : Array Slot} (hl : lv_has ls 8 [(0, .ref (a 0)), (1, .int x1), (2, .int x2), (3, .long x3), (5, .long x5)]) : W p l e ({ frames := 5 + (d + 1), cells := 0, slots := 0, locals := 112 + (d + 1) * 27 } : Room) s m args below meth c H locs 0 0 (MQ below (xQv D cy xmb a S' v' s.heap.size) args s 0 0 (xA xmb a s.heap.size)) (F0 m 0 ls []) := by
  have hx := hM.1
  have hb := hM.2.1
  refine lv_aload_n hx hb dX12_goRods_0 rfl (lv_at hl 0 rfl) ?_
  refine x_gl hM hG xfl_X12_304 xmt_0 (by decide) rfl h dX12_goRods_1 (fun v_1 h => ?_)
  refine lv_lload hx hb dX12_goRods_4 (lv_at hl 4 rfl) ?_
  refine lv_ldc2 (v := (-1 : Int64)) hx hb hM.2.2.2.1 (hM.2.2.2.2.1 _ xcn_X12_308) dX12_goRods_6 ?_
  refine x_lxor hM h dX12_goRods_9 (fun v_2 h => ?_)
  refine x_land hM h dX12_goRods_10 (fun v_3 h => ?_)
  refine lv_lconst (v := (0 : Int64)) hx hb dX12_goRods_11 (by decide) ?_
  refine x_lcmp hM h dX12_goRods_12 (fun v_4 h => ?_)
  refine x_if_ne (tgt := 44) hM h dX12_goRods_13 (by decide) (fun c_5 h => ?_) (fun c_5 h => ?_)
  · exact w_X12_goRods_44 hg_X12_goRods hM hr hlk h (fun t0 e => k0 t0 e) hG (lv_sub hl [0, 1, 2, 3, 4] rfl)
  · refine lv_iload_n hx hb dX12_goRods_16 rfl (lv_at hl 1 rfl) ?_
    refine x_if_ne (tgt := 44) hM h dX12_goRods_17 (by decide) (fun c_6 h => ?_) (fun c_6 h => ?_)
    · exact w_X12_goRods_44 hg_X12_goRods hM hr hlk h (fun t0 e => k0 t0 e) hG (lv_sub hl [0, 1, 2, 3, 4] rfl)
    · refine lv_aload_n hx hb dX12_goRods_20 rfl (lv_at hl 0 rfl) ?_
      refine x_gl hM hG xfl_X12_310 xmt_0 (by decide) rfl h dX12_goRods_21 (fun v_7 h => ?_)
      refine lv_lconst (v := (0 : Int64)) hx hb dX12_goRods_24 (by decide) ?_
      refine x_lcmp hM h dX12_goRods_25 (fun v_8 h => ?_)
      refine x_if_lt (tgt := 38) hM h dX12_goRods_26 (by decide) (fun c_9 h => ?_) (fun c_9 h => ?_)
      · exact w_X12_goRods_38 hg_X12_goRods hM hr hlk h (fun t0 e => k0 t0 e) hG (lv_sub hl [0, 3] rfl)
      · refine lv_lload_n hx hb dX12_goRods_29 rfl (lv_at hl 3 rfl) ?_
        refine lv_aload_n hx hb dX12_goRods_30 rfl (lv_at hl 0 rfl) ?_
        refine x_gl hM hG xfl_X12_310 xmt_0 (by decide) rfl h dX12_goRods_31 (fun v_10 h => ?_)
        refine x_lcmp hM h dX12_goRods_34 (fun v_11 h => ?_)
        refine x_if_ge (tgt := 43) hM h dX12_goRods_35 (by decide) (fun c_12 h => ?_) (fun c_12 h => ?_)
        · exact x_rv hM hG hr hlk (k0 _ (Option.some.inj h).symm) dX12_goRods_43
        · exact w_X12_goRods_38 hg_X12_goRods hM hr hlk h (fun t0 e => k0 t0 e) hG (lv_sub hl [0, 3] rfl)
set_option maxHeartbeats 4000000 in
set_option maxRecDepth 100000 in
theorem cr_F_X12_goRods {l : Launch} {D : va_G} {cy : Nat → ClassId} {a z : Nat → Nat} (hI : xI xmb a) : ∀ d : Nat, (∀ (S : xSt) (x1 : Int32) (x2 : Int32) (x3 : Int64) (x5 : Int64) (S' : xSt) (v' : Unit), f_X12_goRods d S x1 x2 x3 x5 = some (S', v') → ∀ sz : Nat, Met l yX12_goRods (Cond.code yX12_goRods cX12_goRods 8 none :: xTB) ({ frames := 5 + d, cells := 0, slots := 0, locals := 112 + d * 27 } : Room) (va_Pc [.ref (a 0), .int x1, .int x2, .long x3, .long x5] (xPre D cy xmb a z S sz)) (xQv D cy xmb a S' v' sz) 0 0 (xA xmb a sz)) := by
  intro d
  induction d with
  | zero => exact (fun _ _ _ _ _ _ _ h => by cases h)
  | succ d ih =>
    have ih0 := ih
    intro S x1 x2 x3 x5 S' v' hf sz
    refine Met.ofW (cc := cX12_goRods) (maxL := 8) (ret := none) (by decide) rfl ?_
    intro p e s m args below meth c s₁ B hml hv
    obtain ⟨rfl, hsz, hP, hK, hE⟩ := hv
    subst hsz
    have hl := lv_entry ([.ref (a 0), .int x1, .int x2, .long x3, .long x5]) (n := 8) (Nat.le_of_ble_eq_true rfl)
    rw [lg_entry_eq]
    generalize (lg_sl ([.ref (a 0), .int x1, .int x2, .long x3, .long x5]) ++ List.replicate (8 - (lg_sl ([.ref (a 0), .int x1, .int x2, .long x3, .long x5])).length) Slot.unset).toArray = ls at hl ⊢
    have hl : lv_has ls 8 [(0, .ref (a 0)), (1, .int x1), (2, .int x2), (3, .long x3), (5, .long x5)] := hl
    exact w_X12_goRods_0 ih0 ⟨B.exec, B.bytes, hml, findClass_of_methodNamed B.named, fun w hw => atoms_spec (ws := Cond.code yX12_goRods cX12_goRods 8 none :: xTB) B.pre w (List.mem_cons_of_mem _ hw), hK, hI, hE⟩ B.returns B.notSynchronized hf (fun t0 e => e.symm) ⟨hP, va_S.rf⟩ (lv_sub hl [0, 1, 2, 3, 4] rfl)
theorem c_X12_goRods {l : Launch} {D : va_G} {cy : Nat → ClassId} {a z : Nat → Nat} (hI : xI xmb a) (d : Nat) {S : xSt} {x1 : Int32} {x2 : Int32} {x3 : Int64} {x5 : Int64} {S' : xSt} {v' : Unit} (hf : f_X12_goRods d S x1 x2 x3 x5 = some (S', v')) (sz : Nat) : Met l yX12_goRods (Cond.code yX12_goRods cX12_goRods 8 none :: xTB) ({ frames := 5 + d, cells := 0, slots := 0, locals := 112 + d * 27 } : Room) (va_Pc [.ref (a 0), .int x1, .int x2, .long x3, .long x5] (xPre D cy xmb a z S sz)) (xQv D cy xmb a S' v' sz) 0 0 (xA xmb a sz) := (cr_F_X12_goRods hI d) _ _ _ _ _ _ _ hf sz
set_option maxHeartbeats 4000000 in
set_option maxRecDepth 100000 in
theorem w_X12_findRods_47 {x1 : Int32} {x2 : Int32} (hM : xM p c cX12_findRods m s args RX12 3 D cy xmb a z) (hr : meth.sig.returnType = (some .int)) (hlk : meth.locks = false) {S' : xSt} {v' : Int32} {S : xSt} {q : ((xSt × Int32) ⊕ (xSt × Int32))} (h : f_X12_findRods_47 x1 x2 S = some q) (k0 : ∀ t0 : xSt × Int32, q = (.inr t0) → t0 = (S', v')) (k1 : ∀ (S : xSt) (x2 : Int32), q = (.inl (S, x2)) → ∀ (H : Heap) (locs : List Loc) (ls : Array Slot), xG D cy xmb a S s H locs → lv_has ls 3 [(0, .ref (a 0)), (1, .int x1), (2, .int x2)] → W p l e ({ frames := 76, cells := 0, slots := 0, locals := 2029 } : Room) s m args below meth c H locs 0 0 (MQ below (xQi D cy xmb a S' v' s.heap.size) args s 0 0 (xA xmb a s.heap.size)) (F0 m 11 ls [])) {H : Heap} {locs : List Loc} (hG : xG D cy xmb a S s H locs) {ls : Array Slot} (hl : lv_has ls 3 [(0, .ref (a 0)), (1, .int x1), (2, .int x2)]) : W p l e ({ frames := 76, cells := 0, slots := 0, locals := 2029 } : Room) s m args below meth c H locs 0 0 (MQ below (xQi D cy xmb a S' v' s.heap.size) args s 0 0 (xA xmb a s.heap.size)) (F0 m 47 ls []) := by
  have hx := hM.1
  have hb := hM.2.1
  refine x_iinc hM (fun v => [(2, .int v), (0, .ref (a 0)), (1, .int x1)]) h dX12_findRods_47 hl (k := 2) rfl (by decide) (by decide) (fun _ => rfl) (fun v_1 ls h hl => ?_)
  refine lv_goto (tgt := 11) hx hb dX12_findRods_50 (by decide) ?_
  exact k1 _ _ (Option.some.inj h).symm _ _ _ hG (lv_sub hl [1, 2, 0] rfl)
set_option maxHeartbeats 4000000 in
set_option maxRecDepth 100000 in
theorem w_X12_findRods_62 {x2 : Int32} (hM : xM p c cX12_findRods m s args RX12 3 D cy xmb a z) (hr : meth.sig.returnType = (some .int)) (hlk : meth.locks = false) {S' : xSt} {v' : Int32} {S : xSt} {q : ((xSt × Int32) ⊕ (xSt × Int32))} (h : f_X12_findRods_62 S x2 = some q) (k0 : ∀ t0 : xSt × Int32, q = (.inr t0) → t0 = (S', v')) (k1 : ∀ (S : xSt) (x2 : Int32), q = (.inl (S, x2)) → ∀ (H : Heap) (locs : List Loc) (ls : Array Slot), xG D cy xmb a S s H locs → lv_has ls 3 [(0, .ref (a 0)), (2, .int x2)] → W p l e ({ frames := 76, cells := 0, slots := 0, locals := 2029 } : Room) s m args below meth c H locs 0 0 (MQ below (xQi D cy xmb a S' v' s.heap.size) args s 0 0 (xA xmb a s.heap.size)) (F0 m 62 ls [])) {H : Heap} {locs : List Loc} (hG : xG D cy xmb a S s H locs) {ls : Array Slot} (hl : lv_has ls 3 [(0, .ref (a 0)), (2, .int x2)]) : W p l e ({ frames := 76, cells := 0, slots := 0, locals := 2029 } : Room) s m args below meth c H locs 0 0 (MQ below (xQi D cy xmb a S' v' s.heap.size) args s 0 0 (xA xmb a s.heap.size)) (F0 m 62 ls []) := by
  have hx := hM.1
  have hb := hM.2.1
  refine lv_iload_n hx hb dX12_findRods_62 rfl (lv_at hl 1 rfl) ?_
  refine lv_iconst (v := (4 : Int32)) hx hb dX12_findRods_63 (by decide) ?_
  refine x_icmp_gt (tgt := 92) hM h dX12_findRods_64 (by decide) (fun c_1 h => ?_) (fun c_1 h => ?_)
  · refine lv_bipush (v := (-2 : Int32)) hx hb dX12_findRods_92 (by decide) ?_
    exact x_ri hM hG hr hlk rfl (k0 _ (Option.some.inj h).symm) dX12_findRods_94
  · refine lv_aload_n hx hb dX12_findRods_67 rfl (lv_at hl 0 rfl) ?_
    refine lv_iload_n hx hb dX12_findRods_68 rfl (lv_at hl 1 rfl) ?_
    refine lv_iconst (v := (0 : Int32)) hx hb dX12_findRods_69 (by decide) ?_
    refine lv_lconst (v := (0 : Int64)) hx hb dX12_findRods_70 (by decide) ?_
    refine lv_lconst (v := (0 : Int64)) hx hb dX12_findRods_71 (by decide) ?_
    refine x_cVv (As := [.int x2, .int (0 : Int32), .long (0 : Int64), .long (0 : Int64)]) (rest := []) hM hG xml_X12_317 xwi_X12_goRods xws_X12_goRods xmt_0 (by decide) rfl h (fun S' v e => c_X12_goRods hM.2.2.2.2.2.2.1 70 e _) ⟨Nat.le_of_ble_eq_true rfl, Nat.le_of_ble_eq_true rfl⟩ rfl hl.1 rfl (Nat.le_of_ble_eq_true rfl) dX12_findRods_72 (fun S_2 v_3 H locs h hG => ?_)
    refine lv_aload_n hx hb dX12_findRods_75 rfl (lv_at hl 0 rfl) ?_
    refine x_gl hM hG xfl_X12_310 xmt_0 (by decide) rfl h dX12_findRods_76 (fun v_4 h => ?_)
    refine lv_lconst (v := (0 : Int64)) hx hb dX12_findRods_79 (by decide) ?_
    refine x_lcmp hM h dX12_findRods_80 (fun v_5 h => ?_)
    refine x_if_lt (tgt := 86) hM h dX12_findRods_81 (by decide) (fun c_6 h => ?_) (fun c_6 h => ?_)
    · refine x_iinc hM (fun v => [(2, .int v), (0, .ref (a 0))]) h dX12_findRods_86 hl (k := 1) rfl (by decide) (by decide) (fun _ => rfl) (fun v_7 ls h hl => ?_)
      refine lv_goto (tgt := 62) hx hb dX12_findRods_89 (by decide) ?_
      exact k1 _ _ (Option.some.inj h).symm _ _ _ hG (lv_sub hl [1, 0] rfl)
    · refine lv_iload_n hx hb dX12_findRods_84 rfl (lv_at hl 1 rfl) ?_
      exact x_ri hM hG hr hlk rfl (k0 _ (Option.some.inj h).symm) dX12_findRods_85
theorem wl_X12_findRods_62 (hM : xM p c cX12_findRods m s args RX12 3 D cy xmb a z) (hr : meth.sig.returnType = (some .int)) (hlk : meth.locks = false) {S' : xSt} {v' : Int32} {q : (xSt × Int32)} (k0 : ∀ t0 : xSt × Int32, q = t0 → t0 = (S', v')) (n : Nat) : ∀ (S : xSt) (x2 : Int32) (H : Heap) (locs : List Loc) (ls : Array Slot), xlp (fun q : (xSt × Int32) => f_X12_findRods_62 q.1 q.2) n (S, x2) = some q → xG D cy xmb a S s H locs → lv_has ls 3 [(0, .ref (a 0)), (2, .int x2)] → W p l e ({ frames := 76, cells := 0, slots := 0, locals := 2029 } : Room) s m args below meth c H locs 0 0 (MQ below (xQi D cy xmb a S' v' s.heap.size) args s 0 0 (xA xmb a s.heap.size)) (F0 m 62 ls []) := by
  induction n with
  | zero => intro S x2 H locs ls h; exact (xlp_0 h).elim
  | succ n ih =>
    intro S x2 H locs ls h hG hl
    obtain ⟨q1, hq, hc, he⟩ := xlp_at h
    exact w_X12_findRods_62 hM hr hlk (q := q1) hq (fun t0 e => k0 t0 (he _ e).symm) (fun S x2 e H locs ls hG hl => ih S x2 H locs ls (hc _ e) hG hl) hG hl
set_option maxHeartbeats 4000000 in
set_option maxRecDepth 100000 in
theorem w_X12_findRods_53 (hM : xM p c cX12_findRods m s args RX12 3 D cy xmb a z) (hr : meth.sig.returnType = (some .int)) (hlk : meth.locks = false) {S' : xSt} {v' : Int32} {S : xSt} {q : (xSt × Int32)} (h : f_X12_findRods_53 S = some q) (k0 : ∀ t0 : xSt × Int32, q = t0 → t0 = (S', v')) {H : Heap} {locs : List Loc} (hG : xG D cy xmb a S s H locs) {ls : Array Slot} (hl : lv_has ls 3 [(0, .ref (a 0))]) : W p l e ({ frames := 76, cells := 0, slots := 0, locals := 2029 } : Room) s m args below meth c H locs 0 0 (MQ below (xQi D cy xmb a S' v' s.heap.size) args s 0 0 (xA xmb a s.heap.size)) (F0 m 53 ls []) := by
  have hx := hM.1
  have hb := hM.2.1
  refine lv_aload_n hx hb dX12_findRods_53 rfl (lv_at hl 0 rfl) ?_
  refine lv_ldc2 (v := (-1 : Int64)) hx hb hM.2.2.2.1 (hM.2.2.2.2.1 _ xcn_X12_308) dX12_findRods_54 ?_
  refine x_pl hM hG xfl_X12_310 xfp_X12_38 xmt_0 (by decide) rfl h dX12_findRods_57 (fun S_1 H locs h hG => ?_)
  refine lv_iconst (v := (0 : Int32)) hx hb dX12_findRods_60 (by decide) ?_
  refine lv_istore_n (lv' := [(2, .int (0 : Int32)), (0, .ref (a 0))]) hx hb dX12_findRods_61 rfl hl (by decide) rfl (fun ls hl => ?_)
  exact wl_X12_findRods_62 hM hr hlk (fun t0 e => k0 t0 e) 5000 _ _ _ _ _ h hG (lv_sub hl [1, 0] rfl)
set_option maxHeartbeats 4000000 in
set_option maxRecDepth 100000 in
theorem w_X12_findRods_11 {x1 : Int32} {x2 : Int32} (hM : xM p c cX12_findRods m s args RX12 3 D cy xmb a z) (hr : meth.sig.returnType = (some .int)) (hlk : meth.locks = false) {S' : xSt} {v' : Int32} {S : xSt} {q : ((xSt × Int32) ⊕ (xSt × Int32))} (h : f_X12_findRods_11 x1 S x2 = some q) (k0 : ∀ t0 : xSt × Int32, q = (.inr t0) → t0 = (S', v')) (k1 : ∀ (S : xSt) (x2 : Int32), q = (.inl (S, x2)) → ∀ (H : Heap) (locs : List Loc) (ls : Array Slot), xG D cy xmb a S s H locs → lv_has ls 3 [(0, .ref (a 0)), (1, .int x1), (2, .int x2)] → W p l e ({ frames := 76, cells := 0, slots := 0, locals := 2029 } : Room) s m args below meth c H locs 0 0 (MQ below (xQi D cy xmb a S' v' s.heap.size) args s 0 0 (xA xmb a s.heap.size)) (F0 m 11 ls [])) {H : Heap} {locs : List Loc} (hG : xG D cy xmb a S s H locs) {ls : Array Slot} (hl : lv_has ls 3 [(0, .ref (a 0)), (1, .int x1), (2, .int x2)]) : W p l e ({ frames := 76, cells := 0, slots := 0, locals := 2029 } : Room) s m args below meth c H locs 0 0 (MQ below (xQi D cy xmb a S' v' s.heap.size) args s 0 0 (xA xmb a s.heap.size)) (F0 m 11 ls []) := by
  have hx := hM.1
  have hb := hM.2.1
  refine lv_iload_n hx hb dX12_findRods_11 rfl (lv_at hl 2 rfl) ?_
  refine lv_bipush (v := (30 : Int32)) hx hb dX12_findRods_12 (by decide) ?_
  refine x_icmp_ge (tgt := 53) hM h dX12_findRods_14 (by decide) (fun c_1 h => ?_) (fun c_1 h => ?_)
  · obtain ⟨q1, h, e1⟩ := xmr_at h
    exact w_X12_findRods_53 hM hr hlk h (fun t0 e => k0 t0 (by rw [e1, e])) hG (lv_sub hl [0] rfl)
  · refine lv_aload_n hx hb dX12_findRods_17 rfl (lv_at hl 0 rfl) ?_
    refine lv_iload_n hx hb dX12_findRods_18 rfl (lv_at hl 2 rfl) ?_
    refine x_cVi (As := [.int x2]) (rest := []) hM hG xml_X12_279 xwi_X12_isThereNow xws_X12_isThereNow xmt_0 (by decide) rfl h (fun S' v e => c_X12_isThereNow hM.2.2.2.2.2.2.1 e _) ⟨Nat.le_of_ble_eq_true rfl, Nat.le_of_ble_eq_true rfl⟩ rfl hl.1 rfl (Nat.le_of_ble_eq_true rfl) dX12_findRods_19 (fun S_2 v_3 H locs h hG => ?_)
    refine x_if_eq (tgt := 47) hM h dX12_findRods_22 (by decide) (fun c_4 h => ?_) (fun c_4 h => ?_)
    · exact w_X12_findRods_47 hM hr hlk h (fun t0 e => k0 t0 e) (fun S x2 e => k1 S x2 e) hG (lv_sub hl [0, 1, 2] rfl)
    · refine lv_aload_n hx hb dX12_findRods_25 rfl (lv_at hl 0 rfl) ?_
      refine x_gr (r := 24) hM hG xfl_X12_83 xmt_0 (by decide) rfl dX12_findRods_26 ?_
      refine lv_iload_n hx hb dX12_findRods_29 rfl (lv_at hl 2 rfl) ?_
      refine x_iald hM hG xmt_24 h dX12_findRods_30 (fun v_5 h => ?_)
      refine lv_iload_n hx hb dX12_findRods_31 rfl (lv_at hl 1 rfl) ?_
      refine x_icmp_lt (tgt := 47) hM h dX12_findRods_32 (by decide) (fun c_6 h => ?_) (fun c_6 h => ?_)
      · exact w_X12_findRods_47 hM hr hlk h (fun t0 e => k0 t0 e) (fun S x2 e => k1 S x2 e) hG (lv_sub hl [0, 1, 2] rfl)
      · refine lv_aload_n hx hb dX12_findRods_35 rfl (lv_at hl 0 rfl) ?_
        refine lv_dup hx hb dX12_findRods_36 rfl ?_
        refine x_gl hM hG xfl_X12_304 xmt_0 (by decide) rfl h dX12_findRods_37 (fun v_7 h => ?_)
        refine lv_lconst (v := (1 : Int64)) hx hb dX12_findRods_40 (by decide) ?_
        refine lv_iload_n hx hb dX12_findRods_41 rfl (lv_at hl 2 rfl) ?_
        refine x_lshl hM h dX12_findRods_42 (fun v_8 h => ?_)
        refine x_lor hM h dX12_findRods_43 (fun v_9 h => ?_)
        refine x_pl hM hG xfl_X12_304 xfp_X12_37 xmt_0 (by decide) rfl h dX12_findRods_44 (fun S_10 H locs h hG => ?_)
        exact w_X12_findRods_47 hM hr hlk h (fun t0 e => k0 t0 e) (fun S x2 e => k1 S x2 e) hG (lv_sub hl [0, 1, 2] rfl)
theorem wl_X12_findRods_11 {x1 : Int32} (hM : xM p c cX12_findRods m s args RX12 3 D cy xmb a z) (hr : meth.sig.returnType = (some .int)) (hlk : meth.locks = false) {S' : xSt} {v' : Int32} {q : (xSt × Int32)} (k0 : ∀ t0 : xSt × Int32, q = t0 → t0 = (S', v')) (n : Nat) : ∀ (S : xSt) (x2 : Int32) (H : Heap) (locs : List Loc) (ls : Array Slot), xlp (fun q : (xSt × Int32) => f_X12_findRods_11 x1 q.1 q.2) n (S, x2) = some q → xG D cy xmb a S s H locs → lv_has ls 3 [(0, .ref (a 0)), (1, .int x1), (2, .int x2)] → W p l e ({ frames := 76, cells := 0, slots := 0, locals := 2029 } : Room) s m args below meth c H locs 0 0 (MQ below (xQi D cy xmb a S' v' s.heap.size) args s 0 0 (xA xmb a s.heap.size)) (F0 m 11 ls []) := by
  induction n with
  | zero => intro S x2 H locs ls h; exact (xlp_0 h).elim
  | succ n ih =>
    intro S x2 H locs ls h hG hl
    obtain ⟨q1, hq, hc, he⟩ := xlp_at h
    exact w_X12_findRods_11 hM hr hlk (q := q1) hq (fun t0 e => k0 t0 (he _ e).symm) (fun S x2 e H locs ls hG hl => ih S x2 H locs ls (hc _ e) hG hl) hG hl
set_option maxHeartbeats 4000000 in
set_option maxRecDepth 100000 in
theorem w_X12_findRods_0 {x1 : Int32} (hM : xM p c cX12_findRods m s args RX12 3 D cy xmb a z) (hr : meth.sig.returnType = (some .int)) (hlk : meth.locks = false) {S' : xSt} {v' : Int32} {S : xSt} {q : (xSt × Int32)} (h : f_X12_findRods_0 x1 S = some q) (k0 : ∀ t0 : xSt × Int32, q = t0 → t0 = (S', v')) {H : Heap} {locs : List Loc} (hG : xG D cy xmb a S s H locs) {ls : Array Slot} (hl : lv_has ls 3 [(0, .ref (a 0)), (1, .int x1)]) : W p l e ({ frames := 76, cells := 0, slots := 0, locals := 2029 } : Room) s m args below meth c H locs 0 0 (MQ below (xQi D cy xmb a S' v' s.heap.size) args s 0 0 (xA xmb a s.heap.size)) (F0 m 0 ls []) := by
  have hx := hM.1
  have hb := hM.2.1
  refine lv_aload_n hx hb dX12_findRods_0 rfl (lv_at hl 0 rfl) ?_
  refine x_cVv (As := []) (rest := []) hM hG xml_X12_273 xwi_X12_layNow xws_X12_layNow xmt_0 (by decide) rfl h (fun S' v e => c_X12_layNow hM.2.2.2.2.2.2.1 e _) ⟨Nat.le_of_ble_eq_true rfl, Nat.le_of_ble_eq_true rfl⟩ rfl hl.1 rfl (Nat.le_of_ble_eq_true rfl) dX12_findRods_1 (fun S_1 v_2 H locs h hG => ?_)
  refine lv_aload_n hx hb dX12_findRods_4 rfl (lv_at hl 0 rfl) ?_
  refine lv_lconst (v := (0 : Int64)) hx hb dX12_findRods_5 (by decide) ?_
  refine x_pl hM hG xfl_X12_304 xfp_X12_37 xmt_0 (by decide) rfl h dX12_findRods_6 (fun S_3 H locs h hG => ?_)
  refine lv_iconst (v := (0 : Int32)) hx hb dX12_findRods_9 (by decide) ?_
  refine lv_istore_n (lv' := [(2, .int (0 : Int32)), (0, .ref (a 0)), (1, .int x1)]) hx hb dX12_findRods_10 rfl hl (by decide) rfl (fun ls hl => ?_)
  exact wl_X12_findRods_11 hM hr hlk (fun t0 e => k0 t0 e) 5000 _ _ _ _ _ h hG (lv_sub hl [1, 2, 0] rfl)
set_option maxHeartbeats 4000000 in
set_option maxRecDepth 100000 in
theorem c_X12_findRods {l : Launch} {D : va_G} {cy : Nat → ClassId} {a z : Nat → Nat} (hI : xI xmb a) {S : xSt} {x1 : Int32} {S' : xSt} {v' : Int32} (hf : f_X12_findRods S x1 = some (S', v')) (sz : Nat) : Met l yX12_findRods (Cond.code yX12_findRods cX12_findRods 3 (some .int) :: xTB) ({ frames := 76, cells := 0, slots := 0, locals := 2029 } : Room) (va_Pc [.ref (a 0), .int x1] (xPre D cy xmb a z S sz)) (xQi D cy xmb a S' v' sz) 0 0 (xA xmb a sz) := by
  refine Met.ofW (cc := cX12_findRods) (maxL := 3) (ret := (some .int)) (by decide) rfl ?_
  intro p e s m args below meth c s₁ B hml hv
  obtain ⟨rfl, hsz, hP, hK, hE⟩ := hv
  subst hsz
  have hl := lv_entry ([.ref (a 0), .int x1]) (n := 3) (Nat.le_of_ble_eq_true rfl)
  rw [lg_entry_eq]
  generalize (lg_sl ([.ref (a 0), .int x1]) ++ List.replicate (3 - (lg_sl ([.ref (a 0), .int x1])).length) Slot.unset).toArray = ls at hl ⊢
  have hl : lv_has ls 3 [(0, .ref (a 0)), (1, .int x1)] := hl
  exact w_X12_findRods_0 ⟨B.exec, B.bytes, hml, findClass_of_methodNamed B.named, fun w hw => atoms_spec (ws := Cond.code yX12_findRods cX12_findRods 3 (some .int) :: xTB) B.pre w (List.mem_cons_of_mem _ hw), hK, hI, hE⟩ B.returns B.notSynchronized hf (fun t0 e => e.symm) ⟨hP, va_S.rf⟩ (lv_sub hl [0, 1] rfl)
set_option maxHeartbeats 4000000 in
set_option maxRecDepth 100000 in
theorem w_X12_rods_0 {x1 : Int32} (hM : xM p c cX12_rods m s args RX12 2 D cy xmb a z) (hr : meth.sig.returnType = (some .int)) (hlk : meth.locks = false) {S' : xSt} {v' : Int32} {S : xSt} {q : (xSt × Int32)} (h : f_X12_rods_0 x1 S = some q) (k0 : ∀ t0 : xSt × Int32, q = t0 → t0 = (S', v')) {H : Heap} {locs : List Loc} (hG : xG D cy xmb a S s H locs) {ls : Array Slot} (hl : lv_has ls 2 [(0, .ref (a 0)), (1, .int x1)]) : W p l e ({ frames := 77, cells := 0, slots := 0, locals := 2051 } : Room) s m args below meth c H locs 0 0 (MQ below (xQi D cy xmb a S' v' s.heap.size) args s 0 0 (xA xmb a s.heap.size)) (F0 m 0 ls []) := by
  have hx := hM.1
  have hb := hM.2.1
  refine lv_iload_n hx hb dX12_rods_0 rfl (lv_at hl 1 rfl) ?_
  refine lv_iconst (v := (0 : Int32)) hx hb dX12_rods_1 (by decide) ?_
  refine lv_bipush (v := (99 : Int32)) hx hb dX12_rods_2 (by decide) ?_
  refine x_cSi (As := [.int x1, .int (0 : Int32), .int (99 : Int32)]) (rest := []) hM hG xml_X12_142 xwt_X12_in h (fun S' v e => c_X12_in hM.2.2.2.2.2.2.1 e _) ⟨Nat.le_of_ble_eq_true rfl, Nat.le_of_ble_eq_true rfl⟩ rfl hl.1 rfl (Nat.le_of_ble_eq_true rfl) dX12_rods_4 (fun S_1 v_2 H locs h hG => ?_)
  refine x_if_eq (tgt := 18) hM h dX12_rods_7 (by decide) (fun c_3 h => ?_) (fun c_3 h => ?_)
  · refine lv_iconst (v := (-1 : Int32)) hx hb dX12_rods_18 (by decide) ?_
    exact x_ri hM hG hr hlk rfl (k0 _ (Option.some.inj h).symm) dX12_rods_19
  · refine lv_aload_n hx hb dX12_rods_10 rfl (lv_at hl 0 rfl) ?_
    refine lv_iload_n hx hb dX12_rods_11 rfl (lv_at hl 1 rfl) ?_
    refine x_cVi (As := [.int x1]) (rest := []) hM hG xml_X12_321 xwi_X12_findRods xws_X12_findRods xmt_0 (by decide) rfl h (fun S' v e => c_X12_findRods hM.2.2.2.2.2.2.1 e _) ⟨Nat.le_of_ble_eq_true rfl, Nat.le_of_ble_eq_true rfl⟩ rfl hl.1 rfl (Nat.le_of_ble_eq_true rfl) dX12_rods_12 (fun S_4 v_5 H locs h hG => ?_)
    refine lv_goto (tgt := 19) hx hb dX12_rods_15 (by decide) ?_
    exact x_ri hM hG hr hlk rfl (k0 _ (Option.some.inj h).symm) dX12_rods_19
set_option maxHeartbeats 4000000 in
set_option maxRecDepth 100000 in
theorem c_X12_rods {l : Launch} {D : va_G} {cy : Nat → ClassId} {a z : Nat → Nat} (hI : xI xmb a) {S : xSt} {x1 : Int32} {S' : xSt} {v' : Int32} (hf : f_X12_rods S x1 = some (S', v')) (sz : Nat) : Met l yX12_rods (Cond.code yX12_rods cX12_rods 2 (some .int) :: xTB) ({ frames := 77, cells := 0, slots := 0, locals := 2051 } : Room) (va_Pc [.ref (a 0), .int x1] (xPre D cy xmb a z S sz)) (xQi D cy xmb a S' v' sz) 0 0 (xA xmb a sz) := by
  refine Met.ofW (cc := cX12_rods) (maxL := 2) (ret := (some .int)) (by decide) rfl ?_
  intro p e s m args below meth c s₁ B hml hv
  obtain ⟨rfl, hsz, hP, hK, hE⟩ := hv
  subst hsz
  have hl := lv_entry ([.ref (a 0), .int x1]) (n := 2) (Nat.le_of_ble_eq_true rfl)
  rw [lg_entry_eq]
  generalize (lg_sl ([.ref (a 0), .int x1]) ++ List.replicate (2 - (lg_sl ([.ref (a 0), .int x1])).length) Slot.unset).toArray = ls at hl ⊢
  have hl : lv_has ls 2 [(0, .ref (a 0)), (1, .int x1)] := hl
  exact w_X12_rods_0 ⟨B.exec, B.bytes, hml, findClass_of_methodNamed B.named, fun w hw => atoms_spec (ws := Cond.code yX12_rods cX12_rods 2 (some .int) :: xTB) B.pre w (List.mem_cons_of_mem _ hw), hK, hI, hE⟩ B.returns B.notSynchronized hf (fun t0 e => e.symm) ⟨hP, va_S.rf⟩ (lv_sub hl [0, 1] rfl)
set_option maxHeartbeats 4000000 in
set_option maxRecDepth 100000 in
theorem w_X12_rodsAt_0 {x1 : Int32} (hM : xM p c cX12_rodsAt m s args RX12 2 D cy xmb a z) (hr : meth.sig.returnType = (some .long)) (hlk : meth.locks = false) {S' : xSt} {v' : Int64} {S : xSt} {q : (xSt × Int64)} (h : f_X12_rodsAt_0 x1 S = some q) (k0 : ∀ t0 : xSt × Int64, q = t0 → t0 = (S', v')) {H : Heap} {locs : List Loc} (hG : xG D cy xmb a S s H locs) {ls : Array Slot} (hl : lv_has ls 2 [(0, .ref (a 0)), (1, .int x1)]) : W p l e ({ frames := 77, cells := 0, slots := 0, locals := 2051 } : Room) s m args below meth c H locs 0 0 (MQ below (xQl D cy xmb a S' v' s.heap.size) args s 0 0 (xA xmb a s.heap.size)) (F0 m 0 ls []) := by
  have hx := hM.1
  have hb := hM.2.1
  refine lv_iload_n hx hb dX12_rodsAt_0 rfl (lv_at hl 1 rfl) ?_
  refine lv_iconst (v := (0 : Int32)) hx hb dX12_rodsAt_1 (by decide) ?_
  refine lv_bipush (v := (99 : Int32)) hx hb dX12_rodsAt_2 (by decide) ?_
  refine x_cSi (As := [.int x1, .int (0 : Int32), .int (99 : Int32)]) (rest := []) hM hG xml_X12_142 xwt_X12_in h (fun S' v e => c_X12_in hM.2.2.2.2.2.2.1 e _) ⟨Nat.le_of_ble_eq_true rfl, Nat.le_of_ble_eq_true rfl⟩ rfl hl.1 rfl (Nat.le_of_ble_eq_true rfl) dX12_rodsAt_4 (fun S_1 v_2 H locs h hG => ?_)
  refine x_if_ne (tgt := 14) hM h dX12_rodsAt_7 (by decide) (fun c_3 h => ?_) (fun c_3 h => ?_)
  · refine lv_aload_n hx hb dX12_rodsAt_14 rfl (lv_at hl 0 rfl) ?_
    refine lv_iload_n hx hb dX12_rodsAt_15 rfl (lv_at hl 1 rfl) ?_
    refine x_cVi (As := [.int x1]) (rest := []) hM hG xml_X12_321 xwi_X12_findRods xws_X12_findRods xmt_0 (by decide) rfl h (fun S' v e => c_X12_findRods hM.2.2.2.2.2.2.1 e _) ⟨Nat.le_of_ble_eq_true rfl, Nat.le_of_ble_eq_true rfl⟩ rfl hl.1 rfl (Nat.le_of_ble_eq_true rfl) dX12_rodsAt_16 (fun S_4 v_5 H locs h hG => ?_)
    refine x_if_ge (tgt := 28) hM h dX12_rodsAt_19 (by decide) (fun c_6 h => ?_) (fun c_6 h => ?_)
    · refine lv_aload_n hx hb dX12_rodsAt_28 rfl (lv_at hl 0 rfl) ?_
      refine x_gl hM hG xfl_X12_310 xmt_0 (by decide) rfl h dX12_rodsAt_29 (fun v_7 h => ?_)
      exact x_rl hM hG hr hlk (k0 _ (Option.some.inj h).symm) dX12_rodsAt_32
    · refine lv_ldc2 (v := (-2 : Int64)) hx hb hM.2.2.2.1 (hM.2.2.2.2.1 _ xcn_X12_326) dX12_rodsAt_22 ?_
      refine lv_goto (tgt := 32) hx hb dX12_rodsAt_25 (by decide) ?_
      exact x_rl hM hG hr hlk (k0 _ (Option.some.inj h).symm) dX12_rodsAt_32
  · refine lv_ldc2 (v := (-9223372036854775808 : Int64)) hx hb hM.2.2.2.1 (hM.2.2.2.2.1 _ xcn_X12_324) dX12_rodsAt_10 ?_
    exact x_rl hM hG hr hlk (k0 _ (Option.some.inj h).symm) dX12_rodsAt_13
set_option maxHeartbeats 4000000 in
set_option maxRecDepth 100000 in
theorem c_X12_rodsAt {l : Launch} {D : va_G} {cy : Nat → ClassId} {a z : Nat → Nat} (hI : xI xmb a) {S : xSt} {x1 : Int32} {S' : xSt} {v' : Int64} (hf : f_X12_rodsAt S x1 = some (S', v')) (sz : Nat) : Met l yX12_rodsAt (Cond.code yX12_rodsAt cX12_rodsAt 2 (some .long) :: xTB) ({ frames := 77, cells := 0, slots := 0, locals := 2051 } : Room) (va_Pc [.ref (a 0), .int x1] (xPre D cy xmb a z S sz)) (xQl D cy xmb a S' v' sz) 0 0 (xA xmb a sz) := by
  refine Met.ofW (cc := cX12_rodsAt) (maxL := 2) (ret := (some .long)) (by decide) rfl ?_
  intro p e s m args below meth c s₁ B hml hv
  obtain ⟨rfl, hsz, hP, hK, hE⟩ := hv
  subst hsz
  have hl := lv_entry ([.ref (a 0), .int x1]) (n := 2) (Nat.le_of_ble_eq_true rfl)
  rw [lg_entry_eq]
  generalize (lg_sl ([.ref (a 0), .int x1]) ++ List.replicate (2 - (lg_sl ([.ref (a 0), .int x1])).length) Slot.unset).toArray = ls at hl ⊢
  have hl : lv_has ls 2 [(0, .ref (a 0)), (1, .int x1)] := hl
  exact w_X12_rodsAt_0 ⟨B.exec, B.bytes, hml, findClass_of_methodNamed B.named, fun w hw => atoms_spec (ws := Cond.code yX12_rodsAt cX12_rodsAt 2 (some .long) :: xTB) B.pre w (List.mem_cons_of_mem _ hw), hK, hI, hE⟩ B.returns B.notSynchronized hf (fun t0 e => e.symm) ⟨hP, va_S.rf⟩ (lv_sub hl [0, 1] rfl)
set_option maxHeartbeats 4000000 in
set_option maxRecDepth 100000 in
theorem w_X12_turnNow_45 {x1 : Int32} {x2 : Int32} (hM : xM p c cX12_turnNow m s args RX12 3 D cy xmb a z) (hr : meth.sig.returnType = none) (hlk : meth.locks = false) {S' : xSt} {v' : Unit} {S : xSt} {q : ((xSt × Int32) ⊕ (xSt × Unit))} (h : f_X12_turnNow_45 x1 x2 S = some q) (k0 : ∀ t0 : xSt × Unit, q = (.inr t0) → t0 = (S', v')) (k1 : ∀ (S : xSt) (x2 : Int32), q = (.inl (S, x2)) → ∀ (H : Heap) (locs : List Loc) (ls : Array Slot), xG D cy xmb a S s H locs → lv_has ls 3 [(0, .ref (a 0)), (1, .int x1), (2, .int x2)] → W p l e ({ frames := 0, cells := 0, slots := 0, locals := 0 } : Room) s m args below meth c H locs 0 0 (MQ below (xQv D cy xmb a S' v' s.heap.size) args s 0 0 (xA xmb a s.heap.size)) (F0 m 4 ls [])) {H : Heap} {locs : List Loc} (hG : xG D cy xmb a S s H locs) {ls : Array Slot} (hl : lv_has ls 3 [(0, .ref (a 0)), (1, .int x1), (2, .int x2)]) : W p l e ({ frames := 0, cells := 0, slots := 0, locals := 0 } : Room) s m args below meth c H locs 0 0 (MQ below (xQv D cy xmb a S' v' s.heap.size) args s 0 0 (xA xmb a s.heap.size)) (F0 m 45 ls []) := by
  have hx := hM.1
  have hb := hM.2.1
  refine x_iinc hM (fun v => [(2, .int v), (0, .ref (a 0)), (1, .int x1)]) h dX12_turnNow_45 hl (k := 2) rfl (by decide) (by decide) (fun _ => rfl) (fun v_1 ls h hl => ?_)
  refine lv_goto (tgt := 4) hx hb dX12_turnNow_48 (by decide) ?_
  exact k1 _ _ (Option.some.inj h).symm _ _ _ hG (lv_sub hl [1, 2, 0] rfl)
set_option maxHeartbeats 4000000 in
set_option maxRecDepth 100000 in
theorem w_X12_turnNow_4 {x1 : Int32} {x2 : Int32} (hM : xM p c cX12_turnNow m s args RX12 3 D cy xmb a z) (hr : meth.sig.returnType = none) (hlk : meth.locks = false) {S' : xSt} {v' : Unit} {S : xSt} {q : ((xSt × Int32) ⊕ (xSt × Unit))} (h : f_X12_turnNow_4 x1 S x2 = some q) (k0 : ∀ t0 : xSt × Unit, q = (.inr t0) → t0 = (S', v')) (k1 : ∀ (S : xSt) (x2 : Int32), q = (.inl (S, x2)) → ∀ (H : Heap) (locs : List Loc) (ls : Array Slot), xG D cy xmb a S s H locs → lv_has ls 3 [(0, .ref (a 0)), (1, .int x1), (2, .int x2)] → W p l e ({ frames := 0, cells := 0, slots := 0, locals := 0 } : Room) s m args below meth c H locs 0 0 (MQ below (xQv D cy xmb a S' v' s.heap.size) args s 0 0 (xA xmb a s.heap.size)) (F0 m 4 ls [])) {H : Heap} {locs : List Loc} (hG : xG D cy xmb a S s H locs) {ls : Array Slot} (hl : lv_has ls 3 [(0, .ref (a 0)), (1, .int x1), (2, .int x2)]) : W p l e ({ frames := 0, cells := 0, slots := 0, locals := 0 } : Room) s m args below meth c H locs 0 0 (MQ below (xQv D cy xmb a S' v' s.heap.size) args s 0 0 (xA xmb a s.heap.size)) (F0 m 4 ls []) := by
  have hx := hM.1
  have hb := hM.2.1
  refine lv_iload_n hx hb dX12_turnNow_4 rfl (lv_at hl 2 rfl) ?_
  refine lv_iconst (v := (5 : Int32)) hx hb dX12_turnNow_5 (by decide) ?_
  refine lv_iload_n hx hb dX12_turnNow_6 rfl (lv_at hl 1 rfl) ?_
  refine x_imul hM h dX12_turnNow_7 (fun v_1 h => ?_)
  refine lv_aload_n hx hb dX12_turnNow_8 rfl (lv_at hl 0 rfl) ?_
  refine x_gr (r := 22) hM hG xfl_X12_77 xmt_0 (by decide) rfl dX12_turnNow_9 ?_
  refine lv_iload_n hx hb dX12_turnNow_12 rfl (lv_at hl 1 rfl) ?_
  refine x_iald hM hG xmt_22 h dX12_turnNow_13 (fun v_2 h => ?_)
  refine x_iadd hM h dX12_turnNow_14 (fun v_3 h => ?_)
  refine x_icmp_ge (tgt := 51) hM h dX12_turnNow_15 (by decide) (fun c_4 h => ?_) (fun c_4 h => ?_)
  · exact x_rv hM hG hr hlk (k0 _ (Option.some.inj h).symm) dX12_turnNow_51
  · refine lv_aload_n hx hb dX12_turnNow_18 rfl (lv_at hl 0 rfl) ?_
    refine x_gr (r := 24) hM hG xfl_X12_83 xmt_0 (by decide) rfl dX12_turnNow_19 ?_
    refine lv_iload_n hx hb dX12_turnNow_22 rfl (lv_at hl 2 rfl) ?_
    refine lv_bipush (v := (20 : Int32)) hx hb dX12_turnNow_23 (by decide) ?_
    refine x_iast hM hG xmt_24 h dX12_turnNow_25 (fun S_5 H locs h hG => ?_)
    refine lv_aload_n hx hb dX12_turnNow_26 rfl (lv_at hl 0 rfl) ?_
    refine x_gr (r := 23) hM hG xfl_X12_80 xmt_0 (by decide) rfl dX12_turnNow_27 ?_
    refine lv_iload_n hx hb dX12_turnNow_30 rfl (lv_at hl 2 rfl) ?_
    refine x_iald hM hG xmt_23 h dX12_turnNow_31 (fun v_6 h => ?_)
    refine x_if_le (tgt := 45) hM h dX12_turnNow_32 (by decide) (fun c_7 h => ?_) (fun c_7 h => ?_)
    · exact w_X12_turnNow_45 hM hr hlk h (fun t0 e => k0 t0 e) (fun S x2 e => k1 S x2 e) hG (lv_sub hl [0, 1, 2] rfl)
    · refine lv_aload_n hx hb dX12_turnNow_35 rfl (lv_at hl 0 rfl) ?_
      refine x_gr (r := 23) hM hG xfl_X12_80 xmt_0 (by decide) rfl dX12_turnNow_36 ?_
      refine lv_iload_n hx hb dX12_turnNow_39 rfl (lv_at hl 2 rfl) ?_
      refine lv_dup2_11 hx hb dX12_turnNow_40 rfl rfl ?_
      refine x_iald hM hG xmt_23 h dX12_turnNow_41 (fun v_8 h => ?_)
      refine lv_iconst (v := (1 : Int32)) hx hb dX12_turnNow_42 (by decide) ?_
      refine x_isub hM h dX12_turnNow_43 (fun v_9 h => ?_)
      refine x_iast hM hG xmt_23 h dX12_turnNow_44 (fun S_10 H locs h hG => ?_)
      exact w_X12_turnNow_45 hM hr hlk h (fun t0 e => k0 t0 e) (fun S x2 e => k1 S x2 e) hG (lv_sub hl [0, 1, 2] rfl)
theorem wl_X12_turnNow_4 {x1 : Int32} (hM : xM p c cX12_turnNow m s args RX12 3 D cy xmb a z) (hr : meth.sig.returnType = none) (hlk : meth.locks = false) {S' : xSt} {v' : Unit} {q : (xSt × Unit)} (k0 : ∀ t0 : xSt × Unit, q = t0 → t0 = (S', v')) (n : Nat) : ∀ (S : xSt) (x2 : Int32) (H : Heap) (locs : List Loc) (ls : Array Slot), xlp (fun q : (xSt × Int32) => f_X12_turnNow_4 x1 q.1 q.2) n (S, x2) = some q → xG D cy xmb a S s H locs → lv_has ls 3 [(0, .ref (a 0)), (1, .int x1), (2, .int x2)] → W p l e ({ frames := 0, cells := 0, slots := 0, locals := 0 } : Room) s m args below meth c H locs 0 0 (MQ below (xQv D cy xmb a S' v' s.heap.size) args s 0 0 (xA xmb a s.heap.size)) (F0 m 4 ls []) := by
  induction n with
  | zero => intro S x2 H locs ls h; exact (xlp_0 h).elim
  | succ n ih =>
    intro S x2 H locs ls h hG hl
    obtain ⟨q1, hq, hc, he⟩ := xlp_at h
    exact w_X12_turnNow_4 hM hr hlk (q := q1) hq (fun t0 e => k0 t0 (he _ e).symm) (fun S x2 e H locs ls hG hl => ih S x2 H locs ls (hc _ e) hG hl) hG hl
set_option maxHeartbeats 4000000 in
set_option maxRecDepth 100000 in
theorem w_X12_turnNow_0 {x1 : Int32} (hM : xM p c cX12_turnNow m s args RX12 3 D cy xmb a z) (hr : meth.sig.returnType = none) (hlk : meth.locks = false) {S' : xSt} {v' : Unit} {S : xSt} {q : (xSt × Unit)} (h : f_X12_turnNow_0 x1 S = some q) (k0 : ∀ t0 : xSt × Unit, q = t0 → t0 = (S', v')) {H : Heap} {locs : List Loc} (hG : xG D cy xmb a S s H locs) {ls : Array Slot} (hl : lv_has ls 3 [(0, .ref (a 0)), (1, .int x1)]) : W p l e ({ frames := 0, cells := 0, slots := 0, locals := 0 } : Room) s m args below meth c H locs 0 0 (MQ below (xQv D cy xmb a S' v' s.heap.size) args s 0 0 (xA xmb a s.heap.size)) (F0 m 0 ls []) := by
  have hx := hM.1
  have hb := hM.2.1
  refine lv_iconst (v := (5 : Int32)) hx hb dX12_turnNow_0 (by decide) ?_
  refine lv_iload_n hx hb dX12_turnNow_1 rfl (lv_at hl 1 rfl) ?_
  refine x_imul hM h dX12_turnNow_2 (fun v_1 h => ?_)
  refine lv_istore_n (lv' := [(2, .int v_1), (0, .ref (a 0)), (1, .int x1)]) hx hb dX12_turnNow_3 rfl hl (by decide) rfl (fun ls hl => ?_)
  exact wl_X12_turnNow_4 hM hr hlk (fun t0 e => k0 t0 e) 5000 _ _ _ _ _ h hG (lv_sub hl [1, 2, 0] rfl)
set_option maxHeartbeats 4000000 in
set_option maxRecDepth 100000 in
theorem c_X12_turnNow {l : Launch} {D : va_G} {cy : Nat → ClassId} {a z : Nat → Nat} (hI : xI xmb a) {S : xSt} {x1 : Int32} {S' : xSt} {v' : Unit} (hf : f_X12_turnNow S x1 = some (S', v')) (sz : Nat) : Met l yX12_turnNow (Cond.code yX12_turnNow cX12_turnNow 3 none :: xTB) ({ frames := 0, cells := 0, slots := 0, locals := 0 } : Room) (va_Pc [.ref (a 0), .int x1] (xPre D cy xmb a z S sz)) (xQv D cy xmb a S' v' sz) 0 0 (xA xmb a sz) := by
  refine Met.ofW (cc := cX12_turnNow) (maxL := 3) (ret := none) (by decide) rfl ?_
  intro p e s m args below meth c s₁ B hml hv
  obtain ⟨rfl, hsz, hP, hK, hE⟩ := hv
  subst hsz
  have hl := lv_entry ([.ref (a 0), .int x1]) (n := 3) (Nat.le_of_ble_eq_true rfl)
  rw [lg_entry_eq]
  generalize (lg_sl ([.ref (a 0), .int x1]) ++ List.replicate (3 - (lg_sl ([.ref (a 0), .int x1])).length) Slot.unset).toArray = ls at hl ⊢
  have hl : lv_has ls 3 [(0, .ref (a 0)), (1, .int x1)] := hl
  exact w_X12_turnNow_0 ⟨B.exec, B.bytes, hml, findClass_of_methodNamed B.named, fun w hw => atoms_spec (ws := Cond.code yX12_turnNow cX12_turnNow 3 none :: xTB) B.pre w (List.mem_cons_of_mem _ hw), hK, hI, hE⟩ B.returns B.notSynchronized hf (fun t0 e => e.symm) ⟨hP, va_S.rf⟩ (lv_sub hl [0, 1] rfl)
set_option maxHeartbeats 4000000 in
set_option maxRecDepth 100000 in
theorem w_X12_hottestBy_25 {x1 : Int32} {x2 : Int32} {x3 : Int32} (hM : xM p c cX12_hottestBy m s args RX12 4 D cy xmb a z) (hr : meth.sig.returnType = (some .int)) (hlk : meth.locks = false) {S' : xSt} {v' : Int32} {S : xSt} {q : ((xSt × Int32) ⊕ (xSt × Int32))} (h : f_X12_hottestBy_25 x1 x2 x3 S = some q) (k0 : ∀ t0 : xSt × Int32, q = (.inr t0) → t0 = (S', v')) (k1 : ∀ (S : xSt) (x3 : Int32), q = (.inl (S, x3)) → ∀ (H : Heap) (locs : List Loc) (ls : Array Slot), xG D cy xmb a S s H locs → lv_has ls 4 [(0, .ref (a 0)), (1, .int x1), (2, .int x2), (3, .int x3)] → W p l e ({ frames := 8, cells := 0, slots := 0, locals := 179 } : Room) s m args below meth c H locs 0 0 (MQ below (xQi D cy xmb a S' v' s.heap.size) args s 0 0 (xA xmb a s.heap.size)) (F0 m 6 ls [])) {H : Heap} {locs : List Loc} (hG : xG D cy xmb a S s H locs) {ls : Array Slot} (hl : lv_has ls 4 [(0, .ref (a 0)), (1, .int x1), (2, .int x2), (3, .int x3)]) : W p l e ({ frames := 8, cells := 0, slots := 0, locals := 179 } : Room) s m args below meth c H locs 0 0 (MQ below (xQi D cy xmb a S' v' s.heap.size) args s 0 0 (xA xmb a s.heap.size)) (F0 m 25 ls []) := by
  have hx := hM.1
  have hb := hM.2.1
  refine x_iinc hM (fun v => [(3, .int v), (0, .ref (a 0)), (1, .int x1), (2, .int x2)]) h dX12_hottestBy_25 hl (k := 3) rfl (by decide) (by decide) (fun _ => rfl) (fun v_1 ls h hl => ?_)
  refine lv_goto (tgt := 6) hx hb dX12_hottestBy_28 (by decide) ?_
  exact k1 _ _ (Option.some.inj h).symm _ _ _ hG (lv_sub hl [1, 2, 3, 0] rfl)
set_option maxHeartbeats 4000000 in
set_option maxRecDepth 100000 in
theorem w_X12_hottestBy_31 {x2 : Int32} (hM : xM p c cX12_hottestBy m s args RX12 4 D cy xmb a z) (hr : meth.sig.returnType = (some .int)) (hlk : meth.locks = false) {S' : xSt} {v' : Int32} {S : xSt} {q : (xSt × Int32)} (h : f_X12_hottestBy_31 x2 S = some q) (k0 : ∀ t0 : xSt × Int32, q = t0 → t0 = (S', v')) {H : Heap} {locs : List Loc} (hG : xG D cy xmb a S s H locs) {ls : Array Slot} (hl : lv_has ls 4 [(0, .ref (a 0)), (2, .int x2)]) : W p l e ({ frames := 8, cells := 0, slots := 0, locals := 179 } : Room) s m args below meth c H locs 0 0 (MQ below (xQi D cy xmb a S' v' s.heap.size) args s 0 0 (xA xmb a s.heap.size)) (F0 m 31 ls []) := by
  have hx := hM.1
  have hb := hM.2.1
  refine lv_aload_n hx hb dX12_hottestBy_31 rfl (lv_at hl 0 rfl) ?_
  refine lv_iload_n hx hb dX12_hottestBy_32 rfl (lv_at hl 1 rfl) ?_
  refine x_cVv (As := [.int x2]) (rest := []) hM hG xml_X12_291 xwi_X12_goDays xws_X12_goDays xmt_0 (by decide) rfl h (fun S' v e => c_X12_goDays hM.2.2.2.2.2.2.1 e _) ⟨Nat.le_of_ble_eq_true rfl, Nat.le_of_ble_eq_true rfl⟩ rfl hl.1 rfl (Nat.le_of_ble_eq_true rfl) dX12_hottestBy_33 (fun S_1 v_2 H locs h hG => ?_)
  refine lv_aload_n hx hb dX12_hottestBy_36 rfl (lv_at hl 0 rfl) ?_
  refine x_cVi (As := []) (rest := []) hM hG xml_X12_295 xwi_X12_hottestHeat xws_X12_hottestHeat xmt_0 (by decide) rfl h (fun S' v e => c_X12_hottestHeat hM.2.2.2.2.2.2.1 e _) ⟨Nat.le_of_ble_eq_true rfl, Nat.le_of_ble_eq_true rfl⟩ rfl hl.1 rfl (Nat.le_of_ble_eq_true rfl) dX12_hottestBy_37 (fun S_3 v_4 H locs h hG => ?_)
  exact x_ri hM hG hr hlk rfl (k0 _ (Option.some.inj h).symm) dX12_hottestBy_40
set_option maxHeartbeats 4000000 in
set_option maxRecDepth 100000 in
theorem w_X12_hottestBy_6 {x1 : Int32} {x2 : Int32} {x3 : Int32} (hM : xM p c cX12_hottestBy m s args RX12 4 D cy xmb a z) (hr : meth.sig.returnType = (some .int)) (hlk : meth.locks = false) {S' : xSt} {v' : Int32} {S : xSt} {q : ((xSt × Int32) ⊕ (xSt × Int32))} (h : f_X12_hottestBy_6 x1 x2 S x3 = some q) (k0 : ∀ t0 : xSt × Int32, q = (.inr t0) → t0 = (S', v')) (k1 : ∀ (S : xSt) (x3 : Int32), q = (.inl (S, x3)) → ∀ (H : Heap) (locs : List Loc) (ls : Array Slot), xG D cy xmb a S s H locs → lv_has ls 4 [(0, .ref (a 0)), (1, .int x1), (2, .int x2), (3, .int x3)] → W p l e ({ frames := 8, cells := 0, slots := 0, locals := 179 } : Room) s m args below meth c H locs 0 0 (MQ below (xQi D cy xmb a S' v' s.heap.size) args s 0 0 (xA xmb a s.heap.size)) (F0 m 6 ls [])) {H : Heap} {locs : List Loc} (hG : xG D cy xmb a S s H locs) {ls : Array Slot} (hl : lv_has ls 4 [(0, .ref (a 0)), (1, .int x1), (2, .int x2), (3, .int x3)]) : W p l e ({ frames := 8, cells := 0, slots := 0, locals := 179 } : Room) s m args below meth c H locs 0 0 (MQ below (xQi D cy xmb a S' v' s.heap.size) args s 0 0 (xA xmb a s.heap.size)) (F0 m 6 ls []) := by
  have hx := hM.1
  have hb := hM.2.1
  refine lv_iload_n hx hb dX12_hottestBy_6 rfl (lv_at hl 3 rfl) ?_
  refine lv_bipush (v := (6 : Int32)) hx hb dX12_hottestBy_7 (by decide) ?_
  refine x_icmp_ge (tgt := 31) hM h dX12_hottestBy_9 (by decide) (fun c_1 h => ?_) (fun c_1 h => ?_)
  · obtain ⟨q1, h, e1⟩ := xmr_at h
    exact w_X12_hottestBy_31 hM hr hlk h (fun t0 e => k0 t0 (by rw [e1, e])) hG (lv_sub hl [0, 2] rfl)
  · refine lv_iload_n hx hb dX12_hottestBy_12 rfl (lv_at hl 1 rfl) ?_
    refine lv_iload_n hx hb dX12_hottestBy_13 rfl (lv_at hl 3 rfl) ?_
    refine x_cSi (As := [.int x1, .int x3]) (rest := []) hM hG xml_X12_328 xwt_X12_has h (fun S' v e => c_X12_has hM.2.2.2.2.2.2.1 e _) ⟨Nat.le_of_ble_eq_true rfl, Nat.le_of_ble_eq_true rfl⟩ rfl hl.1 rfl (Nat.le_of_ble_eq_true rfl) dX12_hottestBy_14 (fun S_2 v_3 H locs h hG => ?_)
    refine x_if_eq (tgt := 25) hM h dX12_hottestBy_17 (by decide) (fun c_4 h => ?_) (fun c_4 h => ?_)
    · exact w_X12_hottestBy_25 hM hr hlk h (fun t0 e => k0 t0 e) (fun S x3 e => k1 S x3 e) hG (lv_sub hl [0, 1, 2, 3] rfl)
    · refine lv_aload_n hx hb dX12_hottestBy_20 rfl (lv_at hl 0 rfl) ?_
      refine lv_iload_n hx hb dX12_hottestBy_21 rfl (lv_at hl 3 rfl) ?_
      refine x_cVv (As := [.int x3]) (rest := []) hM hG xml_X12_331 xwi_X12_turnNow xws_X12_turnNow xmt_0 (by decide) rfl h (fun S' v e => c_X12_turnNow hM.2.2.2.2.2.2.1 e _) ⟨Nat.le_of_ble_eq_true rfl, Nat.le_of_ble_eq_true rfl⟩ rfl hl.1 rfl (Nat.le_of_ble_eq_true rfl) dX12_hottestBy_22 (fun S_5 v_6 H locs h hG => ?_)
      exact w_X12_hottestBy_25 hM hr hlk h (fun t0 e => k0 t0 e) (fun S x3 e => k1 S x3 e) hG (lv_sub hl [0, 1, 2, 3] rfl)
theorem wl_X12_hottestBy_6 {x1 : Int32} {x2 : Int32} (hM : xM p c cX12_hottestBy m s args RX12 4 D cy xmb a z) (hr : meth.sig.returnType = (some .int)) (hlk : meth.locks = false) {S' : xSt} {v' : Int32} {q : (xSt × Int32)} (k0 : ∀ t0 : xSt × Int32, q = t0 → t0 = (S', v')) (n : Nat) : ∀ (S : xSt) (x3 : Int32) (H : Heap) (locs : List Loc) (ls : Array Slot), xlp (fun q : (xSt × Int32) => f_X12_hottestBy_6 x1 x2 q.1 q.2) n (S, x3) = some q → xG D cy xmb a S s H locs → lv_has ls 4 [(0, .ref (a 0)), (1, .int x1), (2, .int x2), (3, .int x3)] → W p l e ({ frames := 8, cells := 0, slots := 0, locals := 179 } : Room) s m args below meth c H locs 0 0 (MQ below (xQi D cy xmb a S' v' s.heap.size) args s 0 0 (xA xmb a s.heap.size)) (F0 m 6 ls []) := by
  induction n with
  | zero => intro S x3 H locs ls h; exact (xlp_0 h).elim
  | succ n ih =>
    intro S x3 H locs ls h hG hl
    obtain ⟨q1, hq, hc, he⟩ := xlp_at h
    exact w_X12_hottestBy_6 hM hr hlk (q := q1) hq (fun t0 e => k0 t0 (he _ e).symm) (fun S x3 e H locs ls hG hl => ih S x3 H locs ls (hc _ e) hG hl) hG hl
set_option maxHeartbeats 4000000 in
set_option maxRecDepth 100000 in
theorem w_X12_hottestBy_0 {x1 : Int32} {x2 : Int32} (hM : xM p c cX12_hottestBy m s args RX12 4 D cy xmb a z) (hr : meth.sig.returnType = (some .int)) (hlk : meth.locks = false) {S' : xSt} {v' : Int32} {S : xSt} {q : (xSt × Int32)} (h : f_X12_hottestBy_0 x1 x2 S = some q) (k0 : ∀ t0 : xSt × Int32, q = t0 → t0 = (S', v')) {H : Heap} {locs : List Loc} (hG : xG D cy xmb a S s H locs) {ls : Array Slot} (hl : lv_has ls 4 [(0, .ref (a 0)), (1, .int x1), (2, .int x2)]) : W p l e ({ frames := 8, cells := 0, slots := 0, locals := 179 } : Room) s m args below meth c H locs 0 0 (MQ below (xQi D cy xmb a S' v' s.heap.size) args s 0 0 (xA xmb a s.heap.size)) (F0 m 0 ls []) := by
  have hx := hM.1
  have hb := hM.2.1
  refine lv_aload_n hx hb dX12_hottestBy_0 rfl (lv_at hl 0 rfl) ?_
  refine x_cVv (As := []) (rest := []) hM hG xml_X12_273 xwi_X12_layNow xws_X12_layNow xmt_0 (by decide) rfl h (fun S' v e => c_X12_layNow hM.2.2.2.2.2.2.1 e _) ⟨Nat.le_of_ble_eq_true rfl, Nat.le_of_ble_eq_true rfl⟩ rfl hl.1 rfl (Nat.le_of_ble_eq_true rfl) dX12_hottestBy_1 (fun S_1 v_2 H locs h hG => ?_)
  refine lv_iconst (v := (0 : Int32)) hx hb dX12_hottestBy_4 (by decide) ?_
  refine lv_istore_n (lv' := [(3, .int (0 : Int32)), (0, .ref (a 0)), (1, .int x1), (2, .int x2)]) hx hb dX12_hottestBy_5 rfl hl (by decide) rfl (fun ls hl => ?_)
  exact wl_X12_hottestBy_6 hM hr hlk (fun t0 e => k0 t0 e) 5000 _ _ _ _ _ h hG (lv_sub hl [1, 2, 3, 0] rfl)
set_option maxHeartbeats 4000000 in
set_option maxRecDepth 100000 in
theorem c_X12_hottestBy {l : Launch} {D : va_G} {cy : Nat → ClassId} {a z : Nat → Nat} (hI : xI xmb a) {S : xSt} {x1 : Int32} {x2 : Int32} {S' : xSt} {v' : Int32} (hf : f_X12_hottestBy S x1 x2 = some (S', v')) (sz : Nat) : Met l yX12_hottestBy (Cond.code yX12_hottestBy cX12_hottestBy 4 (some .int) :: xTB) ({ frames := 8, cells := 0, slots := 0, locals := 179 } : Room) (va_Pc [.ref (a 0), .int x1, .int x2] (xPre D cy xmb a z S sz)) (xQi D cy xmb a S' v' sz) 0 0 (xA xmb a sz) := by
  refine Met.ofW (cc := cX12_hottestBy) (maxL := 4) (ret := (some .int)) (by decide) rfl ?_
  intro p e s m args below meth c s₁ B hml hv
  obtain ⟨rfl, hsz, hP, hK, hE⟩ := hv
  subst hsz
  have hl := lv_entry ([.ref (a 0), .int x1, .int x2]) (n := 4) (Nat.le_of_ble_eq_true rfl)
  rw [lg_entry_eq]
  generalize (lg_sl ([.ref (a 0), .int x1, .int x2]) ++ List.replicate (4 - (lg_sl ([.ref (a 0), .int x1, .int x2])).length) Slot.unset).toArray = ls at hl ⊢
  have hl : lv_has ls 4 [(0, .ref (a 0)), (1, .int x1), (2, .int x2)] := hl
  exact w_X12_hottestBy_0 ⟨B.exec, B.bytes, hml, findClass_of_methodNamed B.named, fun w hw => atoms_spec (ws := Cond.code yX12_hottestBy cX12_hottestBy 4 (some .int) :: xTB) B.pre w (List.mem_cons_of_mem _ hw), hK, hI, hE⟩ B.returns B.notSynchronized hf (fun t0 e => e.symm) ⟨hP, va_S.rf⟩ (lv_sub hl [0, 1, 2] rfl)
set_option maxHeartbeats 4000000 in
set_option maxRecDepth 100000 in
theorem w_X12_turn_100 {x1 : Int32} {x2 : Int32} {x3 : Int32} {x4 : Int32} {x5 : Int32} {x6 : Int32} (hM : xM p c cX12_turn m s args RX12 8 D cy xmb a z) (hr : meth.sig.returnType = (some .int)) (hlk : meth.locks = false) {S' : xSt} {v' : Int32} {S : xSt} {q : ((xSt × Int32 × Int32 × Int32) ⊕ (xSt × Int32))} (h : f_X12_turn_100 x1 x2 x3 x4 x5 x6 S = some q) (k0 : ∀ t0 : xSt × Int32, q = (.inr t0) → t0 = (S', v')) (k1 : ∀ (S : xSt) (x4 : Int32) (x5 : Int32) (x6 : Int32), q = (.inl (S, x4, x5, x6)) → ∀ (H : Heap) (locs : List Loc) (ls : Array Slot), xG D cy xmb a S s H locs → lv_has ls 8 [(0, .ref (a 0)), (1, .int x1), (2, .int x2), (3, .int x3), (4, .int x4), (5, .int x5), (6, .int x6)] → W p l e ({ frames := 9, cells := 0, slots := 0, locals := 202 } : Room) s m args below meth c H locs 0 0 (MQ below (xQi D cy xmb a S' v' s.heap.size) args s 0 0 (xA xmb a s.heap.size)) (F0 m 41 ls [])) {H : Heap} {locs : List Loc} (hG : xG D cy xmb a S s H locs) {ls : Array Slot} (hl : lv_has ls 8 [(0, .ref (a 0)), (1, .int x1), (2, .int x2), (3, .int x3), (4, .int x4), (5, .int x5), (6, .int x6)]) : W p l e ({ frames := 9, cells := 0, slots := 0, locals := 202 } : Room) s m args below meth c H locs 0 0 (MQ below (xQi D cy xmb a S' v' s.heap.size) args s 0 0 (xA xmb a s.heap.size)) (F0 m 100 ls []) := by
  have hx := hM.1
  have hb := hM.2.1
  refine x_iinc hM (fun v => [(6, .int v), (0, .ref (a 0)), (1, .int x1), (2, .int x2), (3, .int x3), (4, .int x4), (5, .int x5)]) h dX12_turn_100 hl (k := 6) rfl (by decide) (by decide) (fun _ => rfl) (fun v_1 ls h hl => ?_)
  refine lv_goto (tgt := 41) hx hb dX12_turn_103 (by decide) ?_
  exact k1 _ _ _ _ (Option.some.inj h).symm _ _ _ hG (lv_sub hl [1, 2, 3, 4, 5, 6, 0] rfl)
set_option maxHeartbeats 4000000 in
set_option maxRecDepth 100000 in
theorem w_X12_turn_92 {x1 : Int32} {x2 : Int32} {x3 : Int32} {x6 : Int32} {x7 : Int32} (hM : xM p c cX12_turn m s args RX12 8 D cy xmb a z) (hr : meth.sig.returnType = (some .int)) (hlk : meth.locks = false) {S' : xSt} {v' : Int32} {S : xSt} {q : ((xSt × Int32 × Int32 × Int32) ⊕ (xSt × Int32))} (h : f_X12_turn_92 x1 x2 x3 x6 x7 S = some q) (k0 : ∀ t0 : xSt × Int32, q = (.inr t0) → t0 = (S', v')) (k1 : ∀ (S : xSt) (x4 : Int32) (x5 : Int32) (x6 : Int32), q = (.inl (S, x4, x5, x6)) → ∀ (H : Heap) (locs : List Loc) (ls : Array Slot), xG D cy xmb a S s H locs → lv_has ls 8 [(0, .ref (a 0)), (1, .int x1), (2, .int x2), (3, .int x3), (4, .int x4), (5, .int x5), (6, .int x6)] → W p l e ({ frames := 9, cells := 0, slots := 0, locals := 202 } : Room) s m args below meth c H locs 0 0 (MQ below (xQi D cy xmb a S' v' s.heap.size) args s 0 0 (xA xmb a s.heap.size)) (F0 m 41 ls [])) {H : Heap} {locs : List Loc} (hG : xG D cy xmb a S s H locs) {ls : Array Slot} (hl : lv_has ls 8 [(0, .ref (a 0)), (1, .int x1), (2, .int x2), (3, .int x3), (6, .int x6), (7, .int x7)]) : W p l e ({ frames := 9, cells := 0, slots := 0, locals := 202 } : Room) s m args below meth c H locs 0 0 (MQ below (xQi D cy xmb a S' v' s.heap.size) args s 0 0 (xA xmb a s.heap.size)) (F0 m 92 ls []) := by
  have hx := hM.1
  have hb := hM.2.1
  refine lv_iload hx hb dX12_turn_92 (lv_at hl 4 rfl) ?_
  refine lv_istore (lv' := [(4, .int x6), (0, .ref (a 0)), (1, .int x1), (2, .int x2), (3, .int x3), (6, .int x6), (7, .int x7)]) hx hb dX12_turn_94 hl (by decide) rfl (fun ls hl => ?_)
  refine lv_iload hx hb dX12_turn_96 (lv_at hl 6 rfl) ?_
  refine lv_istore (lv' := [(5, .int x7), (4, .int x6), (0, .ref (a 0)), (1, .int x1), (2, .int x2), (3, .int x3), (6, .int x6), (7, .int x7)]) hx hb dX12_turn_98 hl (by decide) rfl (fun ls hl => ?_)
  exact w_X12_turn_100 hM hr hlk h (fun t0 e => k0 t0 e) (fun S x4 x5 x6 e => k1 S x4 x5 x6 e) hG (lv_sub hl [2, 3, 4, 5, 1, 0, 6] rfl)
set_option maxHeartbeats 4000000 in
set_option maxRecDepth 100000 in
theorem w_X12_turn_106 {x3 : Int32} {x4 : Int32} {x5 : Int32} (hM : xM p c cX12_turn m s args RX12 8 D cy xmb a z) (hr : meth.sig.returnType = (some .int)) (hlk : meth.locks = false) {S' : xSt} {v' : Int32} {S : xSt} {q : (xSt × Int32)} (h : f_X12_turn_106 x3 x4 x5 S = some q) (k0 : ∀ t0 : xSt × Int32, q = t0 → t0 = (S', v')) {H : Heap} {locs : List Loc} (hG : xG D cy xmb a S s H locs) {ls : Array Slot} (hl : lv_has ls 8 [(3, .int x3), (4, .int x4), (5, .int x5)]) : W p l e ({ frames := 9, cells := 0, slots := 0, locals := 202 } : Room) s m args below meth c H locs 0 0 (MQ below (xQi D cy xmb a S' v' s.heap.size) args s 0 0 (xA xmb a s.heap.size)) (F0 m 106 ls []) := by
  have hx := hM.1
  have hb := hM.2.1
  refine lv_iload_n hx hb dX12_turn_106 rfl (lv_at hl 0 rfl) ?_
  refine x_if_ne (tgt := 115) hM h dX12_turn_107 (by decide) (fun c_1 h => ?_) (fun c_1 h => ?_)
  · refine lv_iload hx hb dX12_turn_115 (lv_at hl 1 rfl) ?_
    exact x_ri hM hG hr hlk rfl (k0 _ (Option.some.inj h).symm) dX12_turn_117
  · refine lv_iload hx hb dX12_turn_110 (lv_at hl 2 rfl) ?_
    refine lv_goto (tgt := 117) hx hb dX12_turn_112 (by decide) ?_
    exact x_ri hM hG hr hlk rfl (k0 _ (Option.some.inj h).symm) dX12_turn_117
set_option maxHeartbeats 4000000 in
set_option maxRecDepth 100000 in
theorem w_X12_turn_41 {x1 : Int32} {x2 : Int32} {x3 : Int32} {x4 : Int32} {x5 : Int32} {x6 : Int32} (hM : xM p c cX12_turn m s args RX12 8 D cy xmb a z) (hr : meth.sig.returnType = (some .int)) (hlk : meth.locks = false) {S' : xSt} {v' : Int32} {S : xSt} {q : ((xSt × Int32 × Int32 × Int32) ⊕ (xSt × Int32))} (h : f_X12_turn_41 x1 x2 x3 S x4 x5 x6 = some q) (k0 : ∀ t0 : xSt × Int32, q = (.inr t0) → t0 = (S', v')) (k1 : ∀ (S : xSt) (x4 : Int32) (x5 : Int32) (x6 : Int32), q = (.inl (S, x4, x5, x6)) → ∀ (H : Heap) (locs : List Loc) (ls : Array Slot), xG D cy xmb a S s H locs → lv_has ls 8 [(0, .ref (a 0)), (1, .int x1), (2, .int x2), (3, .int x3), (4, .int x4), (5, .int x5), (6, .int x6)] → W p l e ({ frames := 9, cells := 0, slots := 0, locals := 202 } : Room) s m args below meth c H locs 0 0 (MQ below (xQi D cy xmb a S' v' s.heap.size) args s 0 0 (xA xmb a s.heap.size)) (F0 m 41 ls [])) {H : Heap} {locs : List Loc} (hG : xG D cy xmb a S s H locs) {ls : Array Slot} (hl : lv_has ls 8 [(0, .ref (a 0)), (1, .int x1), (2, .int x2), (3, .int x3), (4, .int x4), (5, .int x5), (6, .int x6)]) : W p l e ({ frames := 9, cells := 0, slots := 0, locals := 202 } : Room) s m args below meth c H locs 0 0 (MQ below (xQi D cy xmb a S' v' s.heap.size) args s 0 0 (xA xmb a s.heap.size)) (F0 m 41 ls []) := by
  have hx := hM.1
  have hb := hM.2.1
  refine lv_iload hx hb dX12_turn_41 (lv_at hl 6 rfl) ?_
  refine lv_bipush (v := (64 : Int32)) hx hb dX12_turn_43 (by decide) ?_
  refine x_icmp_ge (tgt := 106) hM h dX12_turn_45 (by decide) (fun c_1 h => ?_) (fun c_1 h => ?_)
  · obtain ⟨q1, h, e1⟩ := xmr_at h
    exact w_X12_turn_106 hM hr hlk h (fun t0 e => k0 t0 (by rw [e1, e])) hG (lv_sub hl [3, 4, 5] rfl)
  · refine lv_iload hx hb dX12_turn_48 (lv_at hl 6 rfl) ?_
    refine x_cSi (As := [.int x6]) (rest := []) hM hG xml_X12_334 xwt_X12_bitsOf h (fun S' v e => c_X12_bitsOf hM.2.2.2.2.2.2.1 e _) ⟨Nat.le_of_ble_eq_true rfl, Nat.le_of_ble_eq_true rfl⟩ rfl hl.1 rfl (Nat.le_of_ble_eq_true rfl) dX12_turn_50 (fun S_2 v_3 H locs h hG => ?_)
    refine lv_iload_n hx hb dX12_turn_53 rfl (lv_at hl 1 rfl) ?_
    refine x_icmp_eq (tgt := 60) hM h dX12_turn_54 (by decide) (fun c_4 h => ?_) (fun c_4 h => ?_)
    · refine lv_aload_n hx hb dX12_turn_60 rfl (lv_at hl 0 rfl) ?_
      refine lv_iload hx hb dX12_turn_61 (lv_at hl 6 rfl) ?_
      refine lv_iload_n hx hb dX12_turn_63 rfl (lv_at hl 2 rfl) ?_
      refine x_cVi (As := [.int x6, .int x2]) (rest := []) hM hG xml_X12_337 xwi_X12_hottestBy xws_X12_hottestBy xmt_0 (by decide) rfl h (fun S' v e => c_X12_hottestBy hM.2.2.2.2.2.2.1 e _) ⟨Nat.le_of_ble_eq_true rfl, Nat.le_of_ble_eq_true rfl⟩ rfl hl.1 rfl (Nat.le_of_ble_eq_true rfl) dX12_turn_64 (fun S_5 v_6 H locs h hG => ?_)
      refine lv_istore (lv' := [(7, .int v_6), (0, .ref (a 0)), (1, .int x1), (2, .int x2), (3, .int x3), (4, .int x4), (5, .int x5), (6, .int x6)]) hx hb dX12_turn_67 hl (by decide) rfl (fun ls hl => ?_)
      refine lv_iload hx hb dX12_turn_69 (lv_at hl 0 rfl) ?_
      refine x_if_ge (tgt := 77) hM h dX12_turn_71 (by decide) (fun c_7 h => ?_) (fun c_7 h => ?_)
      · refine lv_iload hx hb dX12_turn_77 (lv_at hl 5 rfl) ?_
        refine x_if_lt (tgt := 92) hM h dX12_turn_79 (by decide) (fun c_8 h => ?_) (fun c_8 h => ?_)
        · exact w_X12_turn_92 hM hr hlk h (fun t0 e => k0 t0 e) (fun S x4 x5 x6 e => k1 S x4 x5 x6 e) hG (lv_sub hl [1, 2, 3, 4, 7, 0] rfl)
        · refine lv_iload hx hb dX12_turn_82 (lv_at hl 0 rfl) ?_
          refine lv_iload hx hb dX12_turn_84 (lv_at hl 6 rfl) ?_
          refine x_icmp_lt (tgt := 92) hM h dX12_turn_86 (by decide) (fun c_9 h => ?_) (fun c_9 h => ?_)
          · exact w_X12_turn_92 hM hr hlk h (fun t0 e => k0 t0 e) (fun S x4 x5 x6 e => k1 S x4 x5 x6 e) hG (lv_sub hl [1, 2, 3, 4, 7, 0] rfl)
          · refine lv_goto (tgt := 100) hx hb dX12_turn_89 (by decide) ?_
            exact w_X12_turn_100 hM hr hlk h (fun t0 e => k0 t0 e) (fun S x4 x5 x6 e => k1 S x4 x5 x6 e) hG (lv_sub hl [1, 2, 3, 4, 5, 6, 7] rfl)
      · refine lv_bipush (v := (-2 : Int32)) hx hb dX12_turn_74 (by decide) ?_
        exact x_ri hM hG hr hlk rfl (k0 _ (Option.some.inj h).symm) dX12_turn_76
    · refine lv_goto (tgt := 100) hx hb dX12_turn_57 (by decide) ?_
      exact w_X12_turn_100 hM hr hlk h (fun t0 e => k0 t0 e) (fun S x4 x5 x6 e => k1 S x4 x5 x6 e) hG (lv_sub hl [0, 1, 2, 3, 4, 5, 6] rfl)
theorem wl_X12_turn_41 {x1 : Int32} {x2 : Int32} {x3 : Int32} (hM : xM p c cX12_turn m s args RX12 8 D cy xmb a z) (hr : meth.sig.returnType = (some .int)) (hlk : meth.locks = false) {S' : xSt} {v' : Int32} {q : (xSt × Int32)} (k0 : ∀ t0 : xSt × Int32, q = t0 → t0 = (S', v')) (n : Nat) : ∀ (S : xSt) (x4 : Int32) (x5 : Int32) (x6 : Int32) (H : Heap) (locs : List Loc) (ls : Array Slot), xlp (fun q : (xSt × Int32 × Int32 × Int32) => f_X12_turn_41 x1 x2 x3 q.1 q.2.1 q.2.2.1 q.2.2.2) n (S, x4, x5, x6) = some q → xG D cy xmb a S s H locs → lv_has ls 8 [(0, .ref (a 0)), (1, .int x1), (2, .int x2), (3, .int x3), (4, .int x4), (5, .int x5), (6, .int x6)] → W p l e ({ frames := 9, cells := 0, slots := 0, locals := 202 } : Room) s m args below meth c H locs 0 0 (MQ below (xQi D cy xmb a S' v' s.heap.size) args s 0 0 (xA xmb a s.heap.size)) (F0 m 41 ls []) := by
  induction n with
  | zero => intro S x4 x5 x6 H locs ls h; exact (xlp_0 h).elim
  | succ n ih =>
    intro S x4 x5 x6 H locs ls h hG hl
    obtain ⟨q1, hq, hc, he⟩ := xlp_at h
    exact w_X12_turn_41 hM hr hlk (q := q1) hq (fun t0 e => k0 t0 (he _ e).symm) (fun S x4 x5 x6 e H locs ls hG hl => ih S x4 x5 x6 H locs ls (hc _ e) hG hl) hG hl
set_option maxHeartbeats 4000000 in
set_option maxRecDepth 100000 in
theorem w_X12_turn_0 {x1 : Int32} {x2 : Int32} {x3 : Int32} (hM : xM p c cX12_turn m s args RX12 8 D cy xmb a z) (hr : meth.sig.returnType = (some .int)) (hlk : meth.locks = false) {S' : xSt} {v' : Int32} {S : xSt} {q : (xSt × Int32)} (h : f_X12_turn_0 x1 x2 x3 S = some q) (k0 : ∀ t0 : xSt × Int32, q = t0 → t0 = (S', v')) {H : Heap} {locs : List Loc} (hG : xG D cy xmb a S s H locs) {ls : Array Slot} (hl : lv_has ls 8 [(0, .ref (a 0)), (1, .int x1), (2, .int x2), (3, .int x3)]) : W p l e ({ frames := 9, cells := 0, slots := 0, locals := 202 } : Room) s m args below meth c H locs 0 0 (MQ below (xQi D cy xmb a S' v' s.heap.size) args s 0 0 (xA xmb a s.heap.size)) (F0 m 0 ls []) := by
  have hx := hM.1
  have hb := hM.2.1
  refine lv_iload_n hx hb dX12_turn_0 rfl (lv_at hl 1 rfl) ?_
  refine lv_iconst (v := (0 : Int32)) hx hb dX12_turn_1 (by decide) ?_
  refine lv_iconst (v := (3 : Int32)) hx hb dX12_turn_2 (by decide) ?_
  refine x_cSi (As := [.int x1, .int (0 : Int32), .int (3 : Int32)]) (rest := []) hM hG xml_X12_142 xwt_X12_in h (fun S' v e => c_X12_in hM.2.2.2.2.2.2.1 e _) ⟨Nat.le_of_ble_eq_true rfl, Nat.le_of_ble_eq_true rfl⟩ rfl hl.1 rfl (Nat.le_of_ble_eq_true rfl) dX12_turn_3 (fun S_1 v_2 H locs h hG => ?_)
  refine x_if_eq (tgt := 28) hM h dX12_turn_6 (by decide) (fun c_3 h => ?_) (fun c_3 h => ?_)
  · refine lv_iconst (v := (-1 : Int32)) hx hb dX12_turn_28 (by decide) ?_
    exact x_ri hM hG hr hlk rfl (k0 _ (Option.some.inj h).symm) dX12_turn_29
  · refine lv_iload_n hx hb dX12_turn_9 rfl (lv_at hl 2 rfl) ?_
    refine lv_iconst (v := (0 : Int32)) hx hb dX12_turn_10 (by decide) ?_
    refine lv_bipush (v := (20 : Int32)) hx hb dX12_turn_11 (by decide) ?_
    refine x_cSi (As := [.int x2, .int (0 : Int32), .int (20 : Int32)]) (rest := []) hM hG xml_X12_142 xwt_X12_in h (fun S' v e => c_X12_in hM.2.2.2.2.2.2.1 e _) ⟨Nat.le_of_ble_eq_true rfl, Nat.le_of_ble_eq_true rfl⟩ rfl hl.1 rfl (Nat.le_of_ble_eq_true rfl) dX12_turn_13 (fun S_4 v_5 H locs h hG => ?_)
    refine x_if_eq (tgt := 28) hM h dX12_turn_16 (by decide) (fun c_6 h => ?_) (fun c_6 h => ?_)
    · refine lv_iconst (v := (-1 : Int32)) hx hb dX12_turn_28 (by decide) ?_
      exact x_ri hM hG hr hlk rfl (k0 _ (Option.some.inj h).symm) dX12_turn_29
    · refine lv_iload_n hx hb dX12_turn_19 rfl (lv_at hl 3 rfl) ?_
      refine lv_iconst (v := (0 : Int32)) hx hb dX12_turn_20 (by decide) ?_
      refine lv_iconst (v := (1 : Int32)) hx hb dX12_turn_21 (by decide) ?_
      refine x_cSi (As := [.int x3, .int (0 : Int32), .int (1 : Int32)]) (rest := []) hM hG xml_X12_142 xwt_X12_in h (fun S' v e => c_X12_in hM.2.2.2.2.2.2.1 e _) ⟨Nat.le_of_ble_eq_true rfl, Nat.le_of_ble_eq_true rfl⟩ rfl hl.1 rfl (Nat.le_of_ble_eq_true rfl) dX12_turn_22 (fun S_7 v_8 H locs h hG => ?_)
      refine x_if_ne (tgt := 30) hM h dX12_turn_25 (by decide) (fun c_9 h => ?_) (fun c_9 h => ?_)
      · refine lv_bipush (v := (-2 : Int32)) hx hb dX12_turn_30 (by decide) ?_
        refine lv_istore (lv' := [(4, .int (-2 : Int32)), (0, .ref (a 0)), (1, .int x1), (2, .int x2), (3, .int x3)]) hx hb dX12_turn_32 hl (by decide) rfl (fun ls hl => ?_)
        refine lv_bipush (v := (-2 : Int32)) hx hb dX12_turn_34 (by decide) ?_
        refine lv_istore (lv' := [(5, .int (-2 : Int32)), (4, .int (-2 : Int32)), (0, .ref (a 0)), (1, .int x1), (2, .int x2), (3, .int x3)]) hx hb dX12_turn_36 hl (by decide) rfl (fun ls hl => ?_)
        refine lv_iconst (v := (0 : Int32)) hx hb dX12_turn_38 (by decide) ?_
        refine lv_istore (lv' := [(6, .int (0 : Int32)), (5, .int (-2 : Int32)), (4, .int (-2 : Int32)), (0, .ref (a 0)), (1, .int x1), (2, .int x2), (3, .int x3)]) hx hb dX12_turn_39 hl (by decide) rfl (fun ls hl => ?_)
        exact wl_X12_turn_41 hM hr hlk (fun t0 e => k0 t0 e) 5000 _ _ _ _ _ _ _ h hG (lv_sub hl [3, 4, 5, 6, 2, 1, 0] rfl)
      · refine lv_iconst (v := (-1 : Int32)) hx hb dX12_turn_28 (by decide) ?_
        exact x_ri hM hG hr hlk rfl (k0 _ (Option.some.inj h).symm) dX12_turn_29
set_option maxHeartbeats 4000000 in
set_option maxRecDepth 100000 in
theorem c_X12_turn {l : Launch} {D : va_G} {cy : Nat → ClassId} {a z : Nat → Nat} (hI : xI xmb a) {S : xSt} {x1 : Int32} {x2 : Int32} {x3 : Int32} {S' : xSt} {v' : Int32} (hf : f_X12_turn S x1 x2 x3 = some (S', v')) (sz : Nat) : Met l yX12_turn (Cond.code yX12_turn cX12_turn 8 (some .int) :: xTB) ({ frames := 9, cells := 0, slots := 0, locals := 202 } : Room) (va_Pc [.ref (a 0), .int x1, .int x2, .int x3] (xPre D cy xmb a z S sz)) (xQi D cy xmb a S' v' sz) 0 0 (xA xmb a sz) := by
  refine Met.ofW (cc := cX12_turn) (maxL := 8) (ret := (some .int)) (by decide) rfl ?_
  intro p e s m args below meth c s₁ B hml hv
  obtain ⟨rfl, hsz, hP, hK, hE⟩ := hv
  subst hsz
  have hl := lv_entry ([.ref (a 0), .int x1, .int x2, .int x3]) (n := 8) (Nat.le_of_ble_eq_true rfl)
  rw [lg_entry_eq]
  generalize (lg_sl ([.ref (a 0), .int x1, .int x2, .int x3]) ++ List.replicate (8 - (lg_sl ([.ref (a 0), .int x1, .int x2, .int x3])).length) Slot.unset).toArray = ls at hl ⊢
  have hl : lv_has ls 8 [(0, .ref (a 0)), (1, .int x1), (2, .int x2), (3, .int x3)] := hl
  exact w_X12_turn_0 ⟨B.exec, B.bytes, hml, findClass_of_methodNamed B.named, fun w hw => atoms_spec (ws := Cond.code yX12_turn cX12_turn 8 (some .int) :: xTB) B.pre w (List.mem_cons_of_mem _ hw), hK, hI, hE⟩ B.returns B.notSynchronized hf (fun t0 e => e.symm) ⟨hP, va_S.rf⟩ (lv_sub hl [0, 1, 2, 3] rfl)
set_option maxHeartbeats 4000000 in
set_option maxRecDepth 100000 in
theorem w_X12_chimney_104 {x1 : Int32} {x2 : Int32} {x3 : Int32} {x4 : Int32} {x5 : Int32} (hM : xM p c cX12_chimney m s args RX12 7 D cy xmb a z) (hr : meth.sig.returnType = (some .int)) (hlk : meth.locks = false) {S' : xSt} {v' : Int32} {S : xSt} {q : ((xSt × Int32 × Int32 × Int32) ⊕ (xSt × Int32))} (h : f_X12_chimney_104 x1 x2 x3 x4 x5 S = some q) (k0 : ∀ t0 : xSt × Int32, q = (.inr t0) → t0 = (S', v')) (k1 : ∀ (S : xSt) (x3 : Int32) (x4 : Int32) (x5 : Int32), q = (.inl (S, x3, x4, x5)) → ∀ (H : Heap) (locs : List Loc) (ls : Array Slot), xG D cy xmb a S s H locs → lv_has ls 7 [(0, .ref (a 0)), (1, .int x1), (2, .int x2), (3, .int x3), (4, .int x4), (5, .int x5)] → W p l e ({ frames := 8, cells := 0, slots := 0, locals := 179 } : Room) s m args below meth c H locs 0 0 (MQ below (xQi D cy xmb a S' v' s.heap.size) args s 0 0 (xA xmb a s.heap.size)) (F0 m 31 ls [])) {H : Heap} {locs : List Loc} (hG : xG D cy xmb a S s H locs) {ls : Array Slot} (hl : lv_has ls 7 [(0, .ref (a 0)), (1, .int x1), (2, .int x2), (3, .int x3), (4, .int x4), (5, .int x5)]) : W p l e ({ frames := 8, cells := 0, slots := 0, locals := 179 } : Room) s m args below meth c H locs 0 0 (MQ below (xQi D cy xmb a S' v' s.heap.size) args s 0 0 (xA xmb a s.heap.size)) (F0 m 104 ls []) := by
  have hx := hM.1
  have hb := hM.2.1
  refine x_iinc hM (fun v => [(5, .int v), (0, .ref (a 0)), (1, .int x1), (2, .int x2), (3, .int x3), (4, .int x4)]) h dX12_chimney_104 hl (k := 5) rfl (by decide) (by decide) (fun _ => rfl) (fun v_1 ls h hl => ?_)
  refine lv_goto (tgt := 31) hx hb dX12_chimney_107 (by decide) ?_
  exact k1 _ _ _ _ (Option.some.inj h).symm _ _ _ hG (lv_sub hl [1, 2, 3, 4, 5, 0] rfl)
set_option maxHeartbeats 4000000 in
set_option maxRecDepth 100000 in
theorem w_X12_chimney_97 {x1 : Int32} {x2 : Int32} {x5 : Int32} {x6 : Int32} (hM : xM p c cX12_chimney m s args RX12 7 D cy xmb a z) (hr : meth.sig.returnType = (some .int)) (hlk : meth.locks = false) {S' : xSt} {v' : Int32} {S : xSt} {q : ((xSt × Int32 × Int32 × Int32) ⊕ (xSt × Int32))} (h : f_X12_chimney_97 x1 x2 x5 x6 S = some q) (k0 : ∀ t0 : xSt × Int32, q = (.inr t0) → t0 = (S', v')) (k1 : ∀ (S : xSt) (x3 : Int32) (x4 : Int32) (x5 : Int32), q = (.inl (S, x3, x4, x5)) → ∀ (H : Heap) (locs : List Loc) (ls : Array Slot), xG D cy xmb a S s H locs → lv_has ls 7 [(0, .ref (a 0)), (1, .int x1), (2, .int x2), (3, .int x3), (4, .int x4), (5, .int x5)] → W p l e ({ frames := 8, cells := 0, slots := 0, locals := 179 } : Room) s m args below meth c H locs 0 0 (MQ below (xQi D cy xmb a S' v' s.heap.size) args s 0 0 (xA xmb a s.heap.size)) (F0 m 31 ls [])) {H : Heap} {locs : List Loc} (hG : xG D cy xmb a S s H locs) {ls : Array Slot} (hl : lv_has ls 7 [(0, .ref (a 0)), (1, .int x1), (2, .int x2), (5, .int x5), (6, .int x6)]) : W p l e ({ frames := 8, cells := 0, slots := 0, locals := 179 } : Room) s m args below meth c H locs 0 0 (MQ below (xQi D cy xmb a S' v' s.heap.size) args s 0 0 (xA xmb a s.heap.size)) (F0 m 97 ls []) := by
  have hx := hM.1
  have hb := hM.2.1
  refine lv_iload hx hb dX12_chimney_97 (lv_at hl 3 rfl) ?_
  refine lv_istore_n (lv' := [(3, .int x5), (0, .ref (a 0)), (1, .int x1), (2, .int x2), (5, .int x5), (6, .int x6)]) hx hb dX12_chimney_99 rfl hl (by decide) rfl (fun ls hl => ?_)
  refine lv_iload hx hb dX12_chimney_100 (lv_at hl 5 rfl) ?_
  refine lv_istore (lv' := [(4, .int x6), (3, .int x5), (0, .ref (a 0)), (1, .int x1), (2, .int x2), (5, .int x5), (6, .int x6)]) hx hb dX12_chimney_102 hl (by decide) rfl (fun ls hl => ?_)
  exact w_X12_chimney_104 hM hr hlk h (fun t0 e => k0 t0 e) (fun S x3 x4 x5 e => k1 S x3 x4 x5 e) hG (lv_sub hl [2, 3, 4, 1, 0, 5] rfl)
set_option maxHeartbeats 4000000 in
set_option maxRecDepth 100000 in
theorem w_X12_chimney_110 {x2 : Int32} {x3 : Int32} {x4 : Int32} (hM : xM p c cX12_chimney m s args RX12 7 D cy xmb a z) (hr : meth.sig.returnType = (some .int)) (hlk : meth.locks = false) {S' : xSt} {v' : Int32} {S : xSt} {q : (xSt × Int32)} (h : f_X12_chimney_110 x2 x3 x4 S = some q) (k0 : ∀ t0 : xSt × Int32, q = t0 → t0 = (S', v')) {H : Heap} {locs : List Loc} (hG : xG D cy xmb a S s H locs) {ls : Array Slot} (hl : lv_has ls 7 [(2, .int x2), (3, .int x3), (4, .int x4)]) : W p l e ({ frames := 8, cells := 0, slots := 0, locals := 179 } : Room) s m args below meth c H locs 0 0 (MQ below (xQi D cy xmb a S' v' s.heap.size) args s 0 0 (xA xmb a s.heap.size)) (F0 m 110 ls []) := by
  have hx := hM.1
  have hb := hM.2.1
  refine lv_iload_n hx hb dX12_chimney_110 rfl (lv_at hl 0 rfl) ?_
  refine x_if_ne (tgt := 118) hM h dX12_chimney_111 (by decide) (fun c_1 h => ?_) (fun c_1 h => ?_)
  · refine lv_iload hx hb dX12_chimney_118 (lv_at hl 2 rfl) ?_
    exact x_ri hM hG hr hlk rfl (k0 _ (Option.some.inj h).symm) dX12_chimney_120
  · refine lv_iload_n hx hb dX12_chimney_114 rfl (lv_at hl 1 rfl) ?_
    refine lv_goto (tgt := 120) hx hb dX12_chimney_115 (by decide) ?_
    exact x_ri hM hG hr hlk rfl (k0 _ (Option.some.inj h).symm) dX12_chimney_120
set_option maxHeartbeats 4000000 in
set_option maxRecDepth 100000 in
theorem w_X12_chimney_31 {x1 : Int32} {x2 : Int32} {x3 : Int32} {x4 : Int32} {x5 : Int32} (hM : xM p c cX12_chimney m s args RX12 7 D cy xmb a z) (hr : meth.sig.returnType = (some .int)) (hlk : meth.locks = false) {S' : xSt} {v' : Int32} {S : xSt} {q : ((xSt × Int32 × Int32 × Int32) ⊕ (xSt × Int32))} (h : f_X12_chimney_31 x1 x2 S x3 x4 x5 = some q) (k0 : ∀ t0 : xSt × Int32, q = (.inr t0) → t0 = (S', v')) (k1 : ∀ (S : xSt) (x3 : Int32) (x4 : Int32) (x5 : Int32), q = (.inl (S, x3, x4, x5)) → ∀ (H : Heap) (locs : List Loc) (ls : Array Slot), xG D cy xmb a S s H locs → lv_has ls 7 [(0, .ref (a 0)), (1, .int x1), (2, .int x2), (3, .int x3), (4, .int x4), (5, .int x5)] → W p l e ({ frames := 8, cells := 0, slots := 0, locals := 179 } : Room) s m args below meth c H locs 0 0 (MQ below (xQi D cy xmb a S' v' s.heap.size) args s 0 0 (xA xmb a s.heap.size)) (F0 m 31 ls [])) {H : Heap} {locs : List Loc} (hG : xG D cy xmb a S s H locs) {ls : Array Slot} (hl : lv_has ls 7 [(0, .ref (a 0)), (1, .int x1), (2, .int x2), (3, .int x3), (4, .int x4), (5, .int x5)]) : W p l e ({ frames := 8, cells := 0, slots := 0, locals := 179 } : Room) s m args below meth c H locs 0 0 (MQ below (xQi D cy xmb a S' v' s.heap.size) args s 0 0 (xA xmb a s.heap.size)) (F0 m 31 ls []) := by
  have hx := hM.1
  have hb := hM.2.1
  refine lv_iload hx hb dX12_chimney_31 (lv_at hl 5 rfl) ?_
  refine lv_bipush (v := (6 : Int32)) hx hb dX12_chimney_33 (by decide) ?_
  refine x_icmp_ge (tgt := 110) hM h dX12_chimney_35 (by decide) (fun c_1 h => ?_) (fun c_1 h => ?_)
  · obtain ⟨q1, h, e1⟩ := xmr_at h
    exact w_X12_chimney_110 hM hr hlk h (fun t0 e => k0 t0 (by rw [e1, e])) hG (lv_sub hl [2, 3, 4] rfl)
  · refine lv_aload_n hx hb dX12_chimney_38 rfl (lv_at hl 0 rfl) ?_
    refine x_gr (r := 7) hM hG xfl_X12_30 xmt_0 (by decide) rfl dX12_chimney_39 ?_
    refine lv_iload hx hb dX12_chimney_42 (lv_at hl 5 rfl) ?_
    refine x_iald hM hG xmt_7 h dX12_chimney_44 (fun v_2 h => ?_)
    refine lv_iconst (v := (1 : Int32)) hx hb dX12_chimney_45 (by decide) ?_
    refine x_icmp_ne (tgt := 52) hM h dX12_chimney_46 (by decide) (fun c_3 h => ?_) (fun c_3 h => ?_)
    · refine lv_aload_n hx hb dX12_chimney_52 rfl (lv_at hl 0 rfl) ?_
      refine x_cVv (As := []) (rest := []) hM hG xml_X12_273 xwi_X12_layNow xws_X12_layNow xmt_0 (by decide) rfl h (fun S' v e => c_X12_layNow hM.2.2.2.2.2.2.1 e _) ⟨Nat.le_of_ble_eq_true rfl, Nat.le_of_ble_eq_true rfl⟩ rfl hl.1 rfl (Nat.le_of_ble_eq_true rfl) dX12_chimney_53 (fun S_4 v_5 H locs h hG => ?_)
      refine lv_aload_n hx hb dX12_chimney_56 rfl (lv_at hl 0 rfl) ?_
      refine x_gr (r := 27) hM hG xfl_X12_92 xmt_0 (by decide) rfl dX12_chimney_57 ?_
      refine lv_iload hx hb dX12_chimney_60 (lv_at hl 5 rfl) ?_
      refine lv_iconst (v := (1 : Int32)) hx hb dX12_chimney_62 (by decide) ?_
      refine x_iast hM hG xmt_27 h dX12_chimney_63 (fun S_6 H locs h hG => ?_)
      refine lv_aload_n hx hb dX12_chimney_64 rfl (lv_at hl 0 rfl) ?_
      refine lv_iload_n hx hb dX12_chimney_65 rfl (lv_at hl 1 rfl) ?_
      refine x_cVv (As := [.int x1]) (rest := []) hM hG xml_X12_291 xwi_X12_goDays xws_X12_goDays xmt_0 (by decide) rfl h (fun S' v e => c_X12_goDays hM.2.2.2.2.2.2.1 e _) ⟨Nat.le_of_ble_eq_true rfl, Nat.le_of_ble_eq_true rfl⟩ rfl hl.1 rfl (Nat.le_of_ble_eq_true rfl) dX12_chimney_66 (fun S_7 v_8 H locs h hG => ?_)
      refine lv_aload_n hx hb dX12_chimney_69 rfl (lv_at hl 0 rfl) ?_
      refine x_cVi (As := []) (rest := []) hM hG xml_X12_295 xwi_X12_hottestHeat xws_X12_hottestHeat xmt_0 (by decide) rfl h (fun S' v e => c_X12_hottestHeat hM.2.2.2.2.2.2.1 e _) ⟨Nat.le_of_ble_eq_true rfl, Nat.le_of_ble_eq_true rfl⟩ rfl hl.1 rfl (Nat.le_of_ble_eq_true rfl) dX12_chimney_70 (fun S_9 v_10 H locs h hG => ?_)
      refine lv_istore (lv' := [(6, .int v_10), (0, .ref (a 0)), (1, .int x1), (2, .int x2), (3, .int x3), (4, .int x4), (5, .int x5)]) hx hb dX12_chimney_73 hl (by decide) rfl (fun ls hl => ?_)
      refine lv_iload hx hb dX12_chimney_75 (lv_at hl 0 rfl) ?_
      refine x_if_ge (tgt := 83) hM h dX12_chimney_77 (by decide) (fun c_11 h => ?_) (fun c_11 h => ?_)
      · refine lv_iload_n hx hb dX12_chimney_83 rfl (lv_at hl 4 rfl) ?_
        refine x_if_lt (tgt := 97) hM h dX12_chimney_84 (by decide) (fun c_12 h => ?_) (fun c_12 h => ?_)
        · exact w_X12_chimney_97 hM hr hlk h (fun t0 e => k0 t0 e) (fun S x3 x4 x5 e => k1 S x3 x4 x5 e) hG (lv_sub hl [1, 2, 3, 6, 0] rfl)
        · refine lv_iload hx hb dX12_chimney_87 (lv_at hl 0 rfl) ?_
          refine lv_iload hx hb dX12_chimney_89 (lv_at hl 5 rfl) ?_
          refine x_icmp_lt (tgt := 97) hM h dX12_chimney_91 (by decide) (fun c_13 h => ?_) (fun c_13 h => ?_)
          · exact w_X12_chimney_97 hM hr hlk h (fun t0 e => k0 t0 e) (fun S x3 x4 x5 e => k1 S x3 x4 x5 e) hG (lv_sub hl [1, 2, 3, 6, 0] rfl)
          · refine lv_goto (tgt := 104) hx hb dX12_chimney_94 (by decide) ?_
            exact w_X12_chimney_104 hM hr hlk h (fun t0 e => k0 t0 e) (fun S x3 x4 x5 e => k1 S x3 x4 x5 e) hG (lv_sub hl [1, 2, 3, 4, 5, 6] rfl)
      · refine lv_bipush (v := (-2 : Int32)) hx hb dX12_chimney_80 (by decide) ?_
        exact x_ri hM hG hr hlk rfl (k0 _ (Option.some.inj h).symm) dX12_chimney_82
    · refine lv_goto (tgt := 104) hx hb dX12_chimney_49 (by decide) ?_
      exact w_X12_chimney_104 hM hr hlk h (fun t0 e => k0 t0 e) (fun S x3 x4 x5 e => k1 S x3 x4 x5 e) hG (lv_sub hl [0, 1, 2, 3, 4, 5] rfl)
theorem wl_X12_chimney_31 {x1 : Int32} {x2 : Int32} (hM : xM p c cX12_chimney m s args RX12 7 D cy xmb a z) (hr : meth.sig.returnType = (some .int)) (hlk : meth.locks = false) {S' : xSt} {v' : Int32} {q : (xSt × Int32)} (k0 : ∀ t0 : xSt × Int32, q = t0 → t0 = (S', v')) (n : Nat) : ∀ (S : xSt) (x3 : Int32) (x4 : Int32) (x5 : Int32) (H : Heap) (locs : List Loc) (ls : Array Slot), xlp (fun q : (xSt × Int32 × Int32 × Int32) => f_X12_chimney_31 x1 x2 q.1 q.2.1 q.2.2.1 q.2.2.2) n (S, x3, x4, x5) = some q → xG D cy xmb a S s H locs → lv_has ls 7 [(0, .ref (a 0)), (1, .int x1), (2, .int x2), (3, .int x3), (4, .int x4), (5, .int x5)] → W p l e ({ frames := 8, cells := 0, slots := 0, locals := 179 } : Room) s m args below meth c H locs 0 0 (MQ below (xQi D cy xmb a S' v' s.heap.size) args s 0 0 (xA xmb a s.heap.size)) (F0 m 31 ls []) := by
  induction n with
  | zero => intro S x3 x4 x5 H locs ls h; exact (xlp_0 h).elim
  | succ n ih =>
    intro S x3 x4 x5 H locs ls h hG hl
    obtain ⟨q1, hq, hc, he⟩ := xlp_at h
    exact w_X12_chimney_31 hM hr hlk (q := q1) hq (fun t0 e => k0 t0 (he _ e).symm) (fun S x3 x4 x5 e H locs ls hG hl => ih S x3 x4 x5 H locs ls (hc _ e) hG hl) hG hl
set_option maxHeartbeats 4000000 in
set_option maxRecDepth 100000 in
theorem w_X12_chimney_0 {x1 : Int32} {x2 : Int32} (hM : xM p c cX12_chimney m s args RX12 7 D cy xmb a z) (hr : meth.sig.returnType = (some .int)) (hlk : meth.locks = false) {S' : xSt} {v' : Int32} {S : xSt} {q : (xSt × Int32)} (h : f_X12_chimney_0 x1 x2 S = some q) (k0 : ∀ t0 : xSt × Int32, q = t0 → t0 = (S', v')) {H : Heap} {locs : List Loc} (hG : xG D cy xmb a S s H locs) {ls : Array Slot} (hl : lv_has ls 7 [(0, .ref (a 0)), (1, .int x1), (2, .int x2)]) : W p l e ({ frames := 8, cells := 0, slots := 0, locals := 179 } : Room) s m args below meth c H locs 0 0 (MQ below (xQi D cy xmb a S' v' s.heap.size) args s 0 0 (xA xmb a s.heap.size)) (F0 m 0 ls []) := by
  have hx := hM.1
  have hb := hM.2.1
  refine lv_iload_n hx hb dX12_chimney_0 rfl (lv_at hl 1 rfl) ?_
  refine lv_iconst (v := (0 : Int32)) hx hb dX12_chimney_1 (by decide) ?_
  refine lv_bipush (v := (20 : Int32)) hx hb dX12_chimney_2 (by decide) ?_
  refine x_cSi (As := [.int x1, .int (0 : Int32), .int (20 : Int32)]) (rest := []) hM hG xml_X12_142 xwt_X12_in h (fun S' v e => c_X12_in hM.2.2.2.2.2.2.1 e _) ⟨Nat.le_of_ble_eq_true rfl, Nat.le_of_ble_eq_true rfl⟩ rfl hl.1 rfl (Nat.le_of_ble_eq_true rfl) dX12_chimney_4 (fun S_1 v_2 H locs h hG => ?_)
  refine x_if_eq (tgt := 19) hM h dX12_chimney_7 (by decide) (fun c_3 h => ?_) (fun c_3 h => ?_)
  · refine lv_iconst (v := (-1 : Int32)) hx hb dX12_chimney_19 (by decide) ?_
    exact x_ri hM hG hr hlk rfl (k0 _ (Option.some.inj h).symm) dX12_chimney_20
  · refine lv_iload_n hx hb dX12_chimney_10 rfl (lv_at hl 2 rfl) ?_
    refine lv_iconst (v := (0 : Int32)) hx hb dX12_chimney_11 (by decide) ?_
    refine lv_iconst (v := (1 : Int32)) hx hb dX12_chimney_12 (by decide) ?_
    refine x_cSi (As := [.int x2, .int (0 : Int32), .int (1 : Int32)]) (rest := []) hM hG xml_X12_142 xwt_X12_in h (fun S' v e => c_X12_in hM.2.2.2.2.2.2.1 e _) ⟨Nat.le_of_ble_eq_true rfl, Nat.le_of_ble_eq_true rfl⟩ rfl hl.1 rfl (Nat.le_of_ble_eq_true rfl) dX12_chimney_13 (fun S_4 v_5 H locs h hG => ?_)
    refine x_if_ne (tgt := 21) hM h dX12_chimney_16 (by decide) (fun c_6 h => ?_) (fun c_6 h => ?_)
    · refine lv_bipush (v := (-2 : Int32)) hx hb dX12_chimney_21 (by decide) ?_
      refine lv_istore_n (lv' := [(3, .int (-2 : Int32)), (0, .ref (a 0)), (1, .int x1), (2, .int x2)]) hx hb dX12_chimney_23 rfl hl (by decide) rfl (fun ls hl => ?_)
      refine lv_bipush (v := (-2 : Int32)) hx hb dX12_chimney_24 (by decide) ?_
      refine lv_istore (lv' := [(4, .int (-2 : Int32)), (3, .int (-2 : Int32)), (0, .ref (a 0)), (1, .int x1), (2, .int x2)]) hx hb dX12_chimney_26 hl (by decide) rfl (fun ls hl => ?_)
      refine lv_iconst (v := (0 : Int32)) hx hb dX12_chimney_28 (by decide) ?_
      refine lv_istore (lv' := [(5, .int (0 : Int32)), (4, .int (-2 : Int32)), (3, .int (-2 : Int32)), (0, .ref (a 0)), (1, .int x1), (2, .int x2)]) hx hb dX12_chimney_29 hl (by decide) rfl (fun ls hl => ?_)
      exact wl_X12_chimney_31 hM hr hlk (fun t0 e => k0 t0 e) 5000 _ _ _ _ _ _ _ h hG (lv_sub hl [3, 4, 5, 2, 1, 0] rfl)
    · refine lv_iconst (v := (-1 : Int32)) hx hb dX12_chimney_19 (by decide) ?_
      exact x_ri hM hG hr hlk rfl (k0 _ (Option.some.inj h).symm) dX12_chimney_20
set_option maxHeartbeats 4000000 in
set_option maxRecDepth 100000 in
theorem c_X12_chimney {l : Launch} {D : va_G} {cy : Nat → ClassId} {a z : Nat → Nat} (hI : xI xmb a) {S : xSt} {x1 : Int32} {x2 : Int32} {S' : xSt} {v' : Int32} (hf : f_X12_chimney S x1 x2 = some (S', v')) (sz : Nat) : Met l yX12_chimney (Cond.code yX12_chimney cX12_chimney 7 (some .int) :: xTB) ({ frames := 8, cells := 0, slots := 0, locals := 179 } : Room) (va_Pc [.ref (a 0), .int x1, .int x2] (xPre D cy xmb a z S sz)) (xQi D cy xmb a S' v' sz) 0 0 (xA xmb a sz) := by
  refine Met.ofW (cc := cX12_chimney) (maxL := 7) (ret := (some .int)) (by decide) rfl ?_
  intro p e s m args below meth c s₁ B hml hv
  obtain ⟨rfl, hsz, hP, hK, hE⟩ := hv
  subst hsz
  have hl := lv_entry ([.ref (a 0), .int x1, .int x2]) (n := 7) (Nat.le_of_ble_eq_true rfl)
  rw [lg_entry_eq]
  generalize (lg_sl ([.ref (a 0), .int x1, .int x2]) ++ List.replicate (7 - (lg_sl ([.ref (a 0), .int x1, .int x2])).length) Slot.unset).toArray = ls at hl ⊢
  have hl : lv_has ls 7 [(0, .ref (a 0)), (1, .int x1), (2, .int x2)] := hl
  exact w_X12_chimney_0 ⟨B.exec, B.bytes, hml, findClass_of_methodNamed B.named, fun w hw => atoms_spec (ws := Cond.code yX12_chimney cX12_chimney 7 (some .int) :: xTB) B.pre w (List.mem_cons_of_mem _ hw), hK, hI, hE⟩ B.returns B.notSynchronized hf (fun t0 e => e.symm) ⟨hP, va_S.rf⟩ (lv_sub hl [0, 1, 2] rfl)
set_option maxHeartbeats 4000000 in
set_option maxRecDepth 100000 in
theorem w_X12_staysCool_54 {x1 : Int32} {x2 : Int32} (hM : xM p c cX12_staysCool m s args RX12 4 D cy xmb a z) (hr : meth.sig.returnType = (some .boolean)) (hlk : meth.locks = false) {S' : xSt} {v' : Int32} {S : xSt} {q : ((xSt × Int32) ⊕ (xSt × Int32))} (h : f_X12_staysCool_54 x1 x2 S = some q) (k0 : ∀ t0 : xSt × Int32, q = (.inr t0) → t0 = (S', v')) (k1 : ∀ (S : xSt) (x2 : Int32), q = (.inl (S, x2)) → ∀ (H : Heap) (locs : List Loc) (ls : Array Slot), xG D cy xmb a S s H locs → lv_has ls 4 [(0, .ref (a 0)), (1, .int x1), (2, .int x2)] → W p l e ({ frames := 7, cells := 0, slots := 0, locals := 157 } : Room) s m args below meth c H locs 0 0 (MQ below (xQi D cy xmb a S' v' s.heap.size) args s 0 0 (xA xmb a s.heap.size)) (F0 m 6 ls [])) {H : Heap} {locs : List Loc} (hG : xG D cy xmb a S s H locs) {ls : Array Slot} (hl : lv_has ls 4 [(0, .ref (a 0)), (1, .int x1), (2, .int x2)]) : W p l e ({ frames := 7, cells := 0, slots := 0, locals := 157 } : Room) s m args below meth c H locs 0 0 (MQ below (xQi D cy xmb a S' v' s.heap.size) args s 0 0 (xA xmb a s.heap.size)) (F0 m 54 ls []) := by
  have hx := hM.1
  have hb := hM.2.1
  refine lv_aload_n hx hb dX12_staysCool_54 rfl (lv_at hl 0 rfl) ?_
  refine x_cVv (As := []) (rest := []) hM hG xml_X12_282 xwi_X12_goDay xws_X12_goDay xmt_0 (by decide) rfl h (fun S' v e => c_X12_goDay hM.2.2.2.2.2.2.1 e _) ⟨Nat.le_of_ble_eq_true rfl, Nat.le_of_ble_eq_true rfl⟩ rfl hl.1 rfl (Nat.le_of_ble_eq_true rfl) dX12_staysCool_55 (fun S_1 v_2 H locs h hG => ?_)
  refine x_iinc hM (fun v => [(2, .int v), (0, .ref (a 0)), (1, .int x1)]) h dX12_staysCool_58 hl (k := 2) rfl (by decide) (by decide) (fun _ => rfl) (fun v_3 ls h hl => ?_)
  refine lv_goto (tgt := 6) hx hb dX12_staysCool_61 (by decide) ?_
  exact k1 _ _ (Option.some.inj h).symm _ _ _ hG (lv_sub hl [1, 2, 0] rfl)
set_option maxHeartbeats 4000000 in
set_option maxRecDepth 100000 in
theorem w_X12_staysCool_45 {x1 : Int32} {x2 : Int32} (hM : xM p c cX12_staysCool m s args RX12 4 D cy xmb a z) (hr : meth.sig.returnType = (some .boolean)) (hlk : meth.locks = false) {S' : xSt} {v' : Int32} {S : xSt} {q : ((xSt × Int32) ⊕ (xSt × Int32))} (h : f_X12_staysCool_45 x1 x2 S = some q) (k0 : ∀ t0 : xSt × Int32, q = (.inr t0) → t0 = (S', v')) (k1 : ∀ (S : xSt) (x2 : Int32), q = (.inl (S, x2)) → ∀ (H : Heap) (locs : List Loc) (ls : Array Slot), xG D cy xmb a S s H locs → lv_has ls 4 [(0, .ref (a 0)), (1, .int x1), (2, .int x2)] → W p l e ({ frames := 7, cells := 0, slots := 0, locals := 157 } : Room) s m args below meth c H locs 0 0 (MQ below (xQi D cy xmb a S' v' s.heap.size) args s 0 0 (xA xmb a s.heap.size)) (F0 m 6 ls [])) {H : Heap} {locs : List Loc} (hG : xG D cy xmb a S s H locs) {ls : Array Slot} (hl : lv_has ls 4 [(0, .ref (a 0)), (1, .int x1), (2, .int x2)]) : W p l e ({ frames := 7, cells := 0, slots := 0, locals := 157 } : Room) s m args below meth c H locs 0 0 (MQ below (xQi D cy xmb a S' v' s.heap.size) args s 0 0 (xA xmb a s.heap.size)) (F0 m 45 ls []) := by
  have hx := hM.1
  have hb := hM.2.1
  refine lv_aload_n hx hb dX12_staysCool_45 rfl (lv_at hl 0 rfl) ?_
  refine x_cVi (As := []) (rest := []) hM hG xml_X12_298 xwi_X12_glowMany xws_X12_glowMany xmt_0 (by decide) rfl h (fun S' v e => c_X12_glowMany hM.2.2.2.2.2.2.1 e _) ⟨Nat.le_of_ble_eq_true rfl, Nat.le_of_ble_eq_true rfl⟩ rfl hl.1 rfl (Nat.le_of_ble_eq_true rfl) dX12_staysCool_46 (fun S_1 v_2 H locs h hG => ?_)
  refine x_if_le (tgt := 54) hM h dX12_staysCool_49 (by decide) (fun c_3 h => ?_) (fun c_3 h => ?_)
  · exact w_X12_staysCool_54 hM hr hlk h (fun t0 e => k0 t0 e) (fun S x2 e => k1 S x2 e) hG (lv_sub hl [0, 1, 2] rfl)
  · refine lv_iconst (v := (0 : Int32)) hx hb dX12_staysCool_52 (by decide) ?_
    obtain ⟨hz, h⟩ := xgd_at h
    exact x_ri hM hG hr hlk (x_nz hz) (k0 _ (Option.some.inj h).symm) dX12_staysCool_53
set_option maxHeartbeats 4000000 in
set_option maxRecDepth 100000 in
theorem w_X12_staysCool_28 {x1 : Int32} {x2 : Int32} {x3 : Int32} (hM : xM p c cX12_staysCool m s args RX12 4 D cy xmb a z) (hr : meth.sig.returnType = (some .boolean)) (hlk : meth.locks = false) {S' : xSt} {v' : Int32} {S : xSt} {q : ((xSt × Int32) ⊕ ((xSt × Int32) ⊕ (xSt × Int32)))} (h : f_X12_staysCool_28 x1 x2 S x3 = some q) (k0 : ∀ t0 : xSt × Int32, q = (.inr (.inr t0)) → t0 = (S', v')) (k1 : ∀ (S : xSt) (x2 : Int32), q = (.inr (.inl (S, x2))) → ∀ (H : Heap) (locs : List Loc) (ls : Array Slot), xG D cy xmb a S s H locs → lv_has ls 4 [(0, .ref (a 0)), (1, .int x1), (2, .int x2)] → W p l e ({ frames := 7, cells := 0, slots := 0, locals := 157 } : Room) s m args below meth c H locs 0 0 (MQ below (xQi D cy xmb a S' v' s.heap.size) args s 0 0 (xA xmb a s.heap.size)) (F0 m 6 ls [])) (k2 : ∀ (S : xSt) (x3 : Int32), q = (.inl (S, x3)) → ∀ (H : Heap) (locs : List Loc) (ls : Array Slot), xG D cy xmb a S s H locs → lv_has ls 4 [(0, .ref (a 0)), (1, .int x1), (2, .int x2), (3, .int x3)] → W p l e ({ frames := 7, cells := 0, slots := 0, locals := 157 } : Room) s m args below meth c H locs 0 0 (MQ below (xQi D cy xmb a S' v' s.heap.size) args s 0 0 (xA xmb a s.heap.size)) (F0 m 28 ls [])) {H : Heap} {locs : List Loc} (hG : xG D cy xmb a S s H locs) {ls : Array Slot} (hl : lv_has ls 4 [(0, .ref (a 0)), (1, .int x1), (2, .int x2), (3, .int x3)]) : W p l e ({ frames := 7, cells := 0, slots := 0, locals := 157 } : Room) s m args below meth c H locs 0 0 (MQ below (xQi D cy xmb a S' v' s.heap.size) args s 0 0 (xA xmb a s.heap.size)) (F0 m 28 ls []) := by
  have hx := hM.1
  have hb := hM.2.1
  refine lv_iload_n hx hb dX12_staysCool_28 rfl (lv_at hl 3 rfl) ?_
  refine lv_bipush (v := (6 : Int32)) hx hb dX12_staysCool_29 (by decide) ?_
  refine x_icmp_ge (tgt := 45) hM h dX12_staysCool_31 (by decide) (fun c_1 h => ?_) (fun c_1 h => ?_)
  · obtain ⟨q1, h, e1⟩ := xmr_at h
    exact w_X12_staysCool_45 hM hr hlk h (fun t0 e => k0 t0 (by rw [e1, e])) (fun S x2 e => k1 S x2 (by rw [e1, e])) hG (lv_sub hl [0, 1, 2] rfl)
  · refine lv_aload_n hx hb dX12_staysCool_34 rfl (lv_at hl 0 rfl) ?_
    refine lv_iload_n hx hb dX12_staysCool_35 rfl (lv_at hl 3 rfl) ?_
    refine x_cVv (As := [.int x3]) (rest := []) hM hG xml_X12_331 xwi_X12_turnNow xws_X12_turnNow xmt_0 (by decide) rfl h (fun S' v e => c_X12_turnNow hM.2.2.2.2.2.2.1 e _) ⟨Nat.le_of_ble_eq_true rfl, Nat.le_of_ble_eq_true rfl⟩ rfl hl.1 rfl (Nat.le_of_ble_eq_true rfl) dX12_staysCool_36 (fun S_2 v_3 H locs h hG => ?_)
    refine x_iinc hM (fun v => [(3, .int v), (0, .ref (a 0)), (1, .int x1), (2, .int x2)]) h dX12_staysCool_39 hl (k := 3) rfl (by decide) (by decide) (fun _ => rfl) (fun v_4 ls h hl => ?_)
    refine lv_goto (tgt := 28) hx hb dX12_staysCool_42 (by decide) ?_
    exact k2 _ _ (Option.some.inj h).symm _ _ _ hG (lv_sub hl [1, 2, 3, 0] rfl)
theorem wl_X12_staysCool_28 {x1 : Int32} {x2 : Int32} (hM : xM p c cX12_staysCool m s args RX12 4 D cy xmb a z) (hr : meth.sig.returnType = (some .boolean)) (hlk : meth.locks = false) {S' : xSt} {v' : Int32} {q : ((xSt × Int32) ⊕ (xSt × Int32))} (k0 : ∀ t0 : xSt × Int32, q = (.inr t0) → t0 = (S', v')) (k1 : ∀ (S : xSt) (x2 : Int32), q = (.inl (S, x2)) → ∀ (H : Heap) (locs : List Loc) (ls : Array Slot), xG D cy xmb a S s H locs → lv_has ls 4 [(0, .ref (a 0)), (1, .int x1), (2, .int x2)] → W p l e ({ frames := 7, cells := 0, slots := 0, locals := 157 } : Room) s m args below meth c H locs 0 0 (MQ below (xQi D cy xmb a S' v' s.heap.size) args s 0 0 (xA xmb a s.heap.size)) (F0 m 6 ls [])) (n : Nat) : ∀ (S : xSt) (x3 : Int32) (H : Heap) (locs : List Loc) (ls : Array Slot), xlp (fun q : (xSt × Int32) => f_X12_staysCool_28 x1 x2 q.1 q.2) n (S, x3) = some q → xG D cy xmb a S s H locs → lv_has ls 4 [(0, .ref (a 0)), (1, .int x1), (2, .int x2), (3, .int x3)] → W p l e ({ frames := 7, cells := 0, slots := 0, locals := 157 } : Room) s m args below meth c H locs 0 0 (MQ below (xQi D cy xmb a S' v' s.heap.size) args s 0 0 (xA xmb a s.heap.size)) (F0 m 28 ls []) := by
  induction n with
  | zero => intro S x3 H locs ls h; exact (xlp_0 h).elim
  | succ n ih =>
    intro S x3 H locs ls h hG hl
    obtain ⟨q1, hq, hc, he⟩ := xlp_at h
    exact w_X12_staysCool_28 hM hr hlk (q := q1) hq (fun t0 e => k0 t0 (he _ e).symm) (fun S x2 e => k1 S x2 (he _ e).symm) (fun S x3 e H locs ls hG hl => ih S x3 H locs ls (hc _ e) hG hl) hG hl
set_option maxHeartbeats 4000000 in
set_option maxRecDepth 100000 in
theorem w_X12_staysCool_6 {x1 : Int32} {x2 : Int32} (hM : xM p c cX12_staysCool m s args RX12 4 D cy xmb a z) (hr : meth.sig.returnType = (some .boolean)) (hlk : meth.locks = false) {S' : xSt} {v' : Int32} {S : xSt} {q : ((xSt × Int32) ⊕ (xSt × Int32))} (h : f_X12_staysCool_6 x1 S x2 = some q) (k0 : ∀ t0 : xSt × Int32, q = (.inr t0) → t0 = (S', v')) (k1 : ∀ (S : xSt) (x2 : Int32), q = (.inl (S, x2)) → ∀ (H : Heap) (locs : List Loc) (ls : Array Slot), xG D cy xmb a S s H locs → lv_has ls 4 [(0, .ref (a 0)), (1, .int x1), (2, .int x2)] → W p l e ({ frames := 7, cells := 0, slots := 0, locals := 157 } : Room) s m args below meth c H locs 0 0 (MQ below (xQi D cy xmb a S' v' s.heap.size) args s 0 0 (xA xmb a s.heap.size)) (F0 m 6 ls [])) {H : Heap} {locs : List Loc} (hG : xG D cy xmb a S s H locs) {ls : Array Slot} (hl : lv_has ls 4 [(0, .ref (a 0)), (1, .int x1), (2, .int x2)]) : W p l e ({ frames := 7, cells := 0, slots := 0, locals := 157 } : Room) s m args below meth c H locs 0 0 (MQ below (xQi D cy xmb a S' v' s.heap.size) args s 0 0 (xA xmb a s.heap.size)) (F0 m 6 ls []) := by
  have hx := hM.1
  have hb := hM.2.1
  refine lv_iload_n hx hb dX12_staysCool_6 rfl (lv_at hl 2 rfl) ?_
  refine lv_bipush (v := (40 : Int32)) hx hb dX12_staysCool_7 (by decide) ?_
  refine x_icmp_gt (tgt := 64) hM h dX12_staysCool_9 (by decide) (fun c_1 h => ?_) (fun c_1 h => ?_)
  · refine lv_iconst (v := (1 : Int32)) hx hb dX12_staysCool_64 (by decide) ?_
    obtain ⟨hz, h⟩ := xgd_at h
    exact x_ri hM hG hr hlk (x_nz hz) (k0 _ (Option.some.inj h).symm) dX12_staysCool_65
  · refine lv_aload_n hx hb dX12_staysCool_12 rfl (lv_at hl 0 rfl) ?_
    refine x_cVi (As := []) (rest := []) hM hG xml_X12_298 xwi_X12_glowMany xws_X12_glowMany xmt_0 (by decide) rfl h (fun S' v e => c_X12_glowMany hM.2.2.2.2.2.2.1 e _) ⟨Nat.le_of_ble_eq_true rfl, Nat.le_of_ble_eq_true rfl⟩ rfl hl.1 rfl (Nat.le_of_ble_eq_true rfl) dX12_staysCool_13 (fun S_2 v_3 H locs h hG => ?_)
    refine x_if_le (tgt := 21) hM h dX12_staysCool_16 (by decide) (fun c_4 h => ?_) (fun c_4 h => ?_)
    · refine lv_iload_n hx hb dX12_staysCool_21 rfl (lv_at hl 2 rfl) ?_
      refine lv_iload_n hx hb dX12_staysCool_22 rfl (lv_at hl 1 rfl) ?_
      refine x_icmp_ne (tgt := 54) hM h dX12_staysCool_23 (by decide) (fun c_5 h => ?_) (fun c_5 h => ?_)
      · exact w_X12_staysCool_54 hM hr hlk h (fun t0 e => k0 t0 e) (fun S x2 e => k1 S x2 e) hG (lv_sub hl [0, 1, 2] rfl)
      · refine lv_iconst (v := (0 : Int32)) hx hb dX12_staysCool_26 (by decide) ?_
        refine lv_istore_n (lv' := [(3, .int (0 : Int32)), (0, .ref (a 0)), (1, .int x1), (2, .int x2)]) hx hb dX12_staysCool_27 rfl hl (by decide) rfl (fun ls hl => ?_)
        exact wl_X12_staysCool_28 hM hr hlk (fun t0 e => k0 t0 e) (fun S x2 e => k1 S x2 e) 5000 _ _ _ _ _ h hG (lv_sub hl [1, 2, 3, 0] rfl)
    · refine lv_iconst (v := (0 : Int32)) hx hb dX12_staysCool_19 (by decide) ?_
      obtain ⟨hz, h⟩ := xgd_at h
      exact x_ri hM hG hr hlk (x_nz hz) (k0 _ (Option.some.inj h).symm) dX12_staysCool_20
theorem wl_X12_staysCool_6 {x1 : Int32} (hM : xM p c cX12_staysCool m s args RX12 4 D cy xmb a z) (hr : meth.sig.returnType = (some .boolean)) (hlk : meth.locks = false) {S' : xSt} {v' : Int32} {q : (xSt × Int32)} (k0 : ∀ t0 : xSt × Int32, q = t0 → t0 = (S', v')) (n : Nat) : ∀ (S : xSt) (x2 : Int32) (H : Heap) (locs : List Loc) (ls : Array Slot), xlp (fun q : (xSt × Int32) => f_X12_staysCool_6 x1 q.1 q.2) n (S, x2) = some q → xG D cy xmb a S s H locs → lv_has ls 4 [(0, .ref (a 0)), (1, .int x1), (2, .int x2)] → W p l e ({ frames := 7, cells := 0, slots := 0, locals := 157 } : Room) s m args below meth c H locs 0 0 (MQ below (xQi D cy xmb a S' v' s.heap.size) args s 0 0 (xA xmb a s.heap.size)) (F0 m 6 ls []) := by
  induction n with
  | zero => intro S x2 H locs ls h; exact (xlp_0 h).elim
  | succ n ih =>
    intro S x2 H locs ls h hG hl
    obtain ⟨q1, hq, hc, he⟩ := xlp_at h
    exact w_X12_staysCool_6 hM hr hlk (q := q1) hq (fun t0 e => k0 t0 (he _ e).symm) (fun S x2 e H locs ls hG hl => ih S x2 H locs ls (hc _ e) hG hl) hG hl
set_option maxHeartbeats 4000000 in
set_option maxRecDepth 100000 in
theorem w_X12_staysCool_0 {x1 : Int32} (hM : xM p c cX12_staysCool m s args RX12 4 D cy xmb a z) (hr : meth.sig.returnType = (some .boolean)) (hlk : meth.locks = false) {S' : xSt} {v' : Int32} {S : xSt} {q : (xSt × Int32)} (h : f_X12_staysCool_0 x1 S = some q) (k0 : ∀ t0 : xSt × Int32, q = t0 → t0 = (S', v')) {H : Heap} {locs : List Loc} (hG : xG D cy xmb a S s H locs) {ls : Array Slot} (hl : lv_has ls 4 [(0, .ref (a 0)), (1, .int x1)]) : W p l e ({ frames := 7, cells := 0, slots := 0, locals := 157 } : Room) s m args below meth c H locs 0 0 (MQ below (xQi D cy xmb a S' v' s.heap.size) args s 0 0 (xA xmb a s.heap.size)) (F0 m 0 ls []) := by
  have hx := hM.1
  have hb := hM.2.1
  refine lv_aload_n hx hb dX12_staysCool_0 rfl (lv_at hl 0 rfl) ?_
  refine x_cVv (As := []) (rest := []) hM hG xml_X12_273 xwi_X12_layNow xws_X12_layNow xmt_0 (by decide) rfl h (fun S' v e => c_X12_layNow hM.2.2.2.2.2.2.1 e _) ⟨Nat.le_of_ble_eq_true rfl, Nat.le_of_ble_eq_true rfl⟩ rfl hl.1 rfl (Nat.le_of_ble_eq_true rfl) dX12_staysCool_1 (fun S_1 v_2 H locs h hG => ?_)
  refine lv_iconst (v := (0 : Int32)) hx hb dX12_staysCool_4 (by decide) ?_
  refine lv_istore_n (lv' := [(2, .int (0 : Int32)), (0, .ref (a 0)), (1, .int x1)]) hx hb dX12_staysCool_5 rfl hl (by decide) rfl (fun ls hl => ?_)
  exact wl_X12_staysCool_6 hM hr hlk (fun t0 e => k0 t0 e) 5000 _ _ _ _ _ h hG (lv_sub hl [1, 2, 0] rfl)
set_option maxHeartbeats 4000000 in
set_option maxRecDepth 100000 in
theorem c_X12_staysCool {l : Launch} {D : va_G} {cy : Nat → ClassId} {a z : Nat → Nat} (hI : xI xmb a) {S : xSt} {x1 : Int32} {S' : xSt} {v' : Int32} (hf : f_X12_staysCool S x1 = some (S', v')) (sz : Nat) : Met l yX12_staysCool (Cond.code yX12_staysCool cX12_staysCool 4 (some .boolean) :: xTB) ({ frames := 7, cells := 0, slots := 0, locals := 157 } : Room) (va_Pc [.ref (a 0), .int x1] (xPre D cy xmb a z S sz)) (xQi D cy xmb a S' v' sz) 0 0 (xA xmb a sz) := by
  refine Met.ofW (cc := cX12_staysCool) (maxL := 4) (ret := (some .boolean)) (by decide) rfl ?_
  intro p e s m args below meth c s₁ B hml hv
  obtain ⟨rfl, hsz, hP, hK, hE⟩ := hv
  subst hsz
  have hl := lv_entry ([.ref (a 0), .int x1]) (n := 4) (Nat.le_of_ble_eq_true rfl)
  rw [lg_entry_eq]
  generalize (lg_sl ([.ref (a 0), .int x1]) ++ List.replicate (4 - (lg_sl ([.ref (a 0), .int x1])).length) Slot.unset).toArray = ls at hl ⊢
  have hl : lv_has ls 4 [(0, .ref (a 0)), (1, .int x1)] := hl
  exact w_X12_staysCool_0 ⟨B.exec, B.bytes, hml, findClass_of_methodNamed B.named, fun w hw => atoms_spec (ws := Cond.code yX12_staysCool cX12_staysCool 4 (some .boolean) :: xTB) B.pre w (List.mem_cons_of_mem _ hw), hK, hI, hE⟩ B.returns B.notSynchronized hf (fun t0 e => e.symm) ⟨hP, va_S.rf⟩ (lv_sub hl [0, 1] rfl)
set_option maxHeartbeats 4000000 in
set_option maxRecDepth 100000 in
theorem w_X12_latest_15 {x1 : Int32} (hM : xM p c cX12_latest m s args RX12 2 D cy xmb a z) (hr : meth.sig.returnType = (some .int)) (hlk : meth.locks = false) {S' : xSt} {v' : Int32} {S : xSt} {q : ((xSt × Int32) ⊕ (xSt × Int32))} (h : f_X12_latest_15 S x1 = some q) (k0 : ∀ t0 : xSt × Int32, q = (.inr t0) → t0 = (S', v')) (k1 : ∀ (S : xSt) (x1 : Int32), q = (.inl (S, x1)) → ∀ (H : Heap) (locs : List Loc) (ls : Array Slot), xG D cy xmb a S s H locs → lv_has ls 2 [(0, .ref (a 0)), (1, .int x1)] → W p l e ({ frames := 8, cells := 0, slots := 0, locals := 180 } : Room) s m args below meth c H locs 0 0 (MQ below (xQi D cy xmb a S' v' s.heap.size) args s 0 0 (xA xmb a s.heap.size)) (F0 m 15 ls [])) {H : Heap} {locs : List Loc} (hG : xG D cy xmb a S s H locs) {ls : Array Slot} (hl : lv_has ls 2 [(0, .ref (a 0)), (1, .int x1)]) : W p l e ({ frames := 8, cells := 0, slots := 0, locals := 180 } : Room) s m args below meth c H locs 0 0 (MQ below (xQi D cy xmb a S' v' s.heap.size) args s 0 0 (xA xmb a s.heap.size)) (F0 m 15 ls []) := by
  have hx := hM.1
  have hb := hM.2.1
  refine lv_iload_n hx hb dX12_latest_15 rfl (lv_at hl 1 rfl) ?_
  refine x_if_lt (tgt := 35) hM h dX12_latest_16 (by decide) (fun c_1 h => ?_) (fun c_1 h => ?_)
  · refine lv_bipush (v := (-2 : Int32)) hx hb dX12_latest_35 (by decide) ?_
    exact x_ri hM hG hr hlk rfl (k0 _ (Option.some.inj h).symm) dX12_latest_37
  · refine lv_aload_n hx hb dX12_latest_19 rfl (lv_at hl 0 rfl) ?_
    refine lv_iload_n hx hb dX12_latest_20 rfl (lv_at hl 1 rfl) ?_
    refine x_cVi (As := [.int x1]) (rest := []) hM hG xml_X12_340 xwi_X12_staysCool xws_X12_staysCool xmt_0 (by decide) rfl h (fun S' v e => c_X12_staysCool hM.2.2.2.2.2.2.1 e _) ⟨Nat.le_of_ble_eq_true rfl, Nat.le_of_ble_eq_true rfl⟩ rfl hl.1 rfl (Nat.le_of_ble_eq_true rfl) dX12_latest_21 (fun S_2 v_3 H locs h hG => ?_)
    refine x_if_eq (tgt := 29) hM h dX12_latest_24 (by decide) (fun c_4 h => ?_) (fun c_4 h => ?_)
    · refine x_iinc hM (fun v => [(1, .int v), (0, .ref (a 0))]) h dX12_latest_29 hl (k := 1) rfl (by decide) (by decide) (fun _ => rfl) (fun v_5 ls h hl => ?_)
      refine lv_goto (tgt := 15) hx hb dX12_latest_32 (by decide) ?_
      exact k1 _ _ (Option.some.inj h).symm _ _ _ hG (lv_sub hl [1, 0] rfl)
    · refine lv_iload_n hx hb dX12_latest_27 rfl (lv_at hl 1 rfl) ?_
      exact x_ri hM hG hr hlk rfl (k0 _ (Option.some.inj h).symm) dX12_latest_28
theorem wl_X12_latest_15 (hM : xM p c cX12_latest m s args RX12 2 D cy xmb a z) (hr : meth.sig.returnType = (some .int)) (hlk : meth.locks = false) {S' : xSt} {v' : Int32} {q : (xSt × Int32)} (k0 : ∀ t0 : xSt × Int32, q = t0 → t0 = (S', v')) (n : Nat) : ∀ (S : xSt) (x1 : Int32) (H : Heap) (locs : List Loc) (ls : Array Slot), xlp (fun q : (xSt × Int32) => f_X12_latest_15 q.1 q.2) n (S, x1) = some q → xG D cy xmb a S s H locs → lv_has ls 2 [(0, .ref (a 0)), (1, .int x1)] → W p l e ({ frames := 8, cells := 0, slots := 0, locals := 180 } : Room) s m args below meth c H locs 0 0 (MQ below (xQi D cy xmb a S' v' s.heap.size) args s 0 0 (xA xmb a s.heap.size)) (F0 m 15 ls []) := by
  induction n with
  | zero => intro S x1 H locs ls h; exact (xlp_0 h).elim
  | succ n ih =>
    intro S x1 H locs ls h hG hl
    obtain ⟨q1, hq, hc, he⟩ := xlp_at h
    exact w_X12_latest_15 hM hr hlk (q := q1) hq (fun t0 e => k0 t0 (he _ e).symm) (fun S x1 e H locs ls hG hl => ih S x1 H locs ls (hc _ e) hG hl) hG hl
set_option maxHeartbeats 4000000 in
set_option maxRecDepth 100000 in
theorem w_X12_latest_0 (hM : xM p c cX12_latest m s args RX12 2 D cy xmb a z) (hr : meth.sig.returnType = (some .int)) (hlk : meth.locks = false) {S' : xSt} {v' : Int32} {S : xSt} {q : (xSt × Int32)} (h : f_X12_latest_0 S = some q) (k0 : ∀ t0 : xSt × Int32, q = t0 → t0 = (S', v')) {H : Heap} {locs : List Loc} (hG : xG D cy xmb a S s H locs) {ls : Array Slot} (hl : lv_has ls 2 [(0, .ref (a 0))]) : W p l e ({ frames := 8, cells := 0, slots := 0, locals := 180 } : Room) s m args below meth c H locs 0 0 (MQ below (xQi D cy xmb a S' v' s.heap.size) args s 0 0 (xA xmb a s.heap.size)) (F0 m 0 ls []) := by
  have hx := hM.1
  have hb := hM.2.1
  refine lv_aload_n hx hb dX12_latest_0 rfl (lv_at hl 0 rfl) ?_
  refine lv_bipush (v := (41 : Int32)) hx hb dX12_latest_1 (by decide) ?_
  refine x_cVi (As := [.int (41 : Int32)]) (rest := []) hM hG xml_X12_340 xwi_X12_staysCool xws_X12_staysCool xmt_0 (by decide) rfl h (fun S' v e => c_X12_staysCool hM.2.2.2.2.2.2.1 e _) ⟨Nat.le_of_ble_eq_true rfl, Nat.le_of_ble_eq_true rfl⟩ rfl hl.1 rfl (Nat.le_of_ble_eq_true rfl) dX12_latest_3 (fun S_1 v_2 H locs h hG => ?_)
  refine x_if_eq (tgt := 12) hM h dX12_latest_6 (by decide) (fun c_3 h => ?_) (fun c_3 h => ?_)
  · refine lv_bipush (v := (20 : Int32)) hx hb dX12_latest_12 (by decide) ?_
    refine lv_istore_n (lv' := [(1, .int (20 : Int32)), (0, .ref (a 0))]) hx hb dX12_latest_14 rfl hl (by decide) rfl (fun ls hl => ?_)
    exact wl_X12_latest_15 hM hr hlk (fun t0 e => k0 t0 e) 5000 _ _ _ _ _ h hG (lv_sub hl [1, 0] rfl)
  · refine lv_bipush (v := (-2 : Int32)) hx hb dX12_latest_9 (by decide) ?_
    exact x_ri hM hG hr hlk rfl (k0 _ (Option.some.inj h).symm) dX12_latest_11
set_option maxHeartbeats 4000000 in
set_option maxRecDepth 100000 in
theorem c_X12_latest {l : Launch} {D : va_G} {cy : Nat → ClassId} {a z : Nat → Nat} (hI : xI xmb a) {S : xSt} {S' : xSt} {v' : Int32} (hf : f_X12_latest S = some (S', v')) (sz : Nat) : Met l yX12_latest (Cond.code yX12_latest cX12_latest 2 (some .int) :: xTB) ({ frames := 8, cells := 0, slots := 0, locals := 180 } : Room) (va_Pc [.ref (a 0)] (xPre D cy xmb a z S sz)) (xQi D cy xmb a S' v' sz) 0 0 (xA xmb a sz) := by
  refine Met.ofW (cc := cX12_latest) (maxL := 2) (ret := (some .int)) (by decide) rfl ?_
  intro p e s m args below meth c s₁ B hml hv
  obtain ⟨rfl, hsz, hP, hK, hE⟩ := hv
  subst hsz
  have hl := lv_entry ([.ref (a 0)]) (n := 2) (Nat.le_of_ble_eq_true rfl)
  rw [lg_entry_eq]
  generalize (lg_sl ([.ref (a 0)]) ++ List.replicate (2 - (lg_sl ([.ref (a 0)])).length) Slot.unset).toArray = ls at hl ⊢
  have hl : lv_has ls 2 [(0, .ref (a 0))] := hl
  exact w_X12_latest_0 ⟨B.exec, B.bytes, hml, findClass_of_methodNamed B.named, fun w hw => atoms_spec (ws := Cond.code yX12_latest cX12_latest 2 (some .int) :: xTB) B.pre w (List.mem_cons_of_mem _ hw), hK, hI, hE⟩ B.returns B.notSynchronized hf (fun t0 e => e.symm) ⟨hP, va_S.rf⟩ (lv_sub hl [0] rfl)
set_option maxHeartbeats 4000000 in
set_option maxRecDepth 100000 in
theorem w_X12_rowFault_0 {x1 : Int32} (hM : xM p c cX12_rowFault m s args RX12 2 D cy xmb a z) (hr : meth.sig.returnType = (some .int)) (hlk : meth.locks = false) {S' : xSt} {v' : Int32} {S : xSt} {q : (xSt × Int32)} (h : f_X12_rowFault_0 x1 S = some q) (k0 : ∀ t0 : xSt × Int32, q = t0 → t0 = (S', v')) {H : Heap} {locs : List Loc} (hG : xG D cy xmb a S s H locs) {ls : Array Slot} (hl : lv_has ls 2 [(0, .ref (a 0)), (1, .int x1)]) : W p l e ({ frames := 0, cells := 0, slots := 0, locals := 0 } : Room) s m args below meth c H locs 0 0 (MQ below (xQi D cy xmb a S' v' s.heap.size) args s 0 0 (xA xmb a s.heap.size)) (F0 m 0 ls []) := by
  have hx := hM.1
  have hb := hM.2.1
  refine lv_aload_n hx hb dX12_rowFault_0 rfl (lv_at hl 0 rfl) ?_
  refine x_gr (r := 37) hM hG xfl_X12_126 xmt_0 (by decide) rfl dX12_rowFault_1 ?_
  refine lv_iload_n hx hb dX12_rowFault_4 rfl (lv_at hl 1 rfl) ?_
  refine x_iald hM hG xmt_37 h dX12_rowFault_5 (fun v_1 h => ?_)
  refine lv_iconst (v := (-1 : Int32)) hx hb dX12_rowFault_6 (by decide) ?_
  refine x_icmp_ne (tgt := 15) hM h dX12_rowFault_7 (by decide) (fun c_2 h => ?_) (fun c_2 h => ?_)
  · refine lv_aload_n hx hb dX12_rowFault_15 rfl (lv_at hl 0 rfl) ?_
    refine x_gr (r := 37) hM hG xfl_X12_126 xmt_0 (by decide) rfl dX12_rowFault_16 ?_
    refine lv_iload_n hx hb dX12_rowFault_19 rfl (lv_at hl 1 rfl) ?_
    refine x_iald hM hG xmt_37 h dX12_rowFault_20 (fun v_3 h => ?_)
    refine lv_bipush (v := (-2 : Int32)) hx hb dX12_rowFault_21 (by decide) ?_
    refine x_icmp_ne (tgt := 30) hM h dX12_rowFault_23 (by decide) (fun c_4 h => ?_) (fun c_4 h => ?_)
    · refine lv_bipush (v := (-12 : Int32)) hx hb dX12_rowFault_30 (by decide) ?_
      exact x_ri hM hG hr hlk rfl (k0 _ (Option.some.inj h).symm) dX12_rowFault_32
    · refine lv_iconst (v := (0 : Int32)) hx hb dX12_rowFault_26 (by decide) ?_
      refine lv_goto (tgt := 32) hx hb dX12_rowFault_27 (by decide) ?_
      exact x_ri hM hG hr hlk rfl (k0 _ (Option.some.inj h).symm) dX12_rowFault_32
  · refine lv_bipush (v := (-11 : Int32)) hx hb dX12_rowFault_10 (by decide) ?_
    refine lv_goto (tgt := 32) hx hb dX12_rowFault_12 (by decide) ?_
    exact x_ri hM hG hr hlk rfl (k0 _ (Option.some.inj h).symm) dX12_rowFault_32
set_option maxHeartbeats 4000000 in
set_option maxRecDepth 100000 in
theorem c_X12_rowFault {l : Launch} {D : va_G} {cy : Nat → ClassId} {a z : Nat → Nat} (hI : xI xmb a) {S : xSt} {x1 : Int32} {S' : xSt} {v' : Int32} (hf : f_X12_rowFault S x1 = some (S', v')) (sz : Nat) : Met l yX12_rowFault (Cond.code yX12_rowFault cX12_rowFault 2 (some .int) :: xTB) ({ frames := 0, cells := 0, slots := 0, locals := 0 } : Room) (va_Pc [.ref (a 0), .int x1] (xPre D cy xmb a z S sz)) (xQi D cy xmb a S' v' sz) 0 0 (xA xmb a sz) := by
  refine Met.ofW (cc := cX12_rowFault) (maxL := 2) (ret := (some .int)) (by decide) rfl ?_
  intro p e s m args below meth c s₁ B hml hv
  obtain ⟨rfl, hsz, hP, hK, hE⟩ := hv
  subst hsz
  have hl := lv_entry ([.ref (a 0), .int x1]) (n := 2) (Nat.le_of_ble_eq_true rfl)
  rw [lg_entry_eq]
  generalize (lg_sl ([.ref (a 0), .int x1]) ++ List.replicate (2 - (lg_sl ([.ref (a 0), .int x1])).length) Slot.unset).toArray = ls at hl ⊢
  have hl : lv_has ls 2 [(0, .ref (a 0)), (1, .int x1)] := hl
  exact w_X12_rowFault_0 ⟨B.exec, B.bytes, hml, findClass_of_methodNamed B.named, fun w hw => atoms_spec (ws := Cond.code yX12_rowFault cX12_rowFault 2 (some .int) :: xTB) B.pre w (List.mem_cons_of_mem _ hw), hK, hI, hE⟩ B.returns B.notSynchronized hf (fun t0 e => e.symm) ⟨hP, va_S.rf⟩ (lv_sub hl [0, 1] rfl)
set_option maxHeartbeats 4000000 in
set_option maxRecDepth 100000 in
theorem w_X12_at_0 {x1 : Int32} {x2 : Int32} (hM : xM p c cX12_at m s args RX12 3 D cy xmb a z) (hr : meth.sig.returnType = (some .int)) (hlk : meth.locks = false) {S' : xSt} {v' : Int32} {S : xSt} {q : (xSt × Int32)} (h : f_X12_at_0 x1 x2 S = some q) (k0 : ∀ t0 : xSt × Int32, q = t0 → t0 = (S', v')) {H : Heap} {locs : List Loc} (hG : xG D cy xmb a S s H locs) {ls : Array Slot} (hl : lv_has ls 3 [(0, .ref (a 0)), (1, .int x1), (2, .int x2)]) : W p l e ({ frames := 0, cells := 0, slots := 0, locals := 0 } : Room) s m args below meth c H locs 0 0 (MQ below (xQi D cy xmb a S' v' s.heap.size) args s 0 0 (xA xmb a s.heap.size)) (F0 m 0 ls []) := by
  have hx := hM.1
  have hb := hM.2.1
  refine lv_aload_n hx hb dX12_at_0 rfl (lv_at hl 0 rfl) ?_
  refine x_gr (r := 39) hM hG xfl_X12_132 xmt_0 (by decide) rfl dX12_at_1 ?_
  refine lv_bipush (v := (60 : Int32)) hx hb dX12_at_4 (by decide) ?_
  refine lv_iload_n hx hb dX12_at_6 rfl (lv_at hl 1 rfl) ?_
  refine x_imul hM h dX12_at_7 (fun v_1 h => ?_)
  refine lv_iload_n hx hb dX12_at_8 rfl (lv_at hl 2 rfl) ?_
  refine x_iadd hM h dX12_at_9 (fun v_2 h => ?_)
  refine x_lald hM hG xmt_39 h dX12_at_10 (fun v_3 h => ?_)
  refine x_l2i hM h dX12_at_11 (fun v_4 h => ?_)
  exact x_ri hM hG hr hlk rfl (k0 _ (Option.some.inj h).symm) dX12_at_12
set_option maxHeartbeats 4000000 in
set_option maxRecDepth 100000 in
theorem c_X12_at {l : Launch} {D : va_G} {cy : Nat → ClassId} {a z : Nat → Nat} (hI : xI xmb a) {S : xSt} {x1 : Int32} {x2 : Int32} {S' : xSt} {v' : Int32} (hf : f_X12_at S x1 x2 = some (S', v')) (sz : Nat) : Met l yX12_at (Cond.code yX12_at cX12_at 3 (some .int) :: xTB) ({ frames := 0, cells := 0, slots := 0, locals := 0 } : Room) (va_Pc [.ref (a 0), .int x1, .int x2] (xPre D cy xmb a z S sz)) (xQi D cy xmb a S' v' sz) 0 0 (xA xmb a sz) := by
  refine Met.ofW (cc := cX12_at) (maxL := 3) (ret := (some .int)) (by decide) rfl ?_
  intro p e s m args below meth c s₁ B hml hv
  obtain ⟨rfl, hsz, hP, hK, hE⟩ := hv
  subst hsz
  have hl := lv_entry ([.ref (a 0), .int x1, .int x2]) (n := 3) (Nat.le_of_ble_eq_true rfl)
  rw [lg_entry_eq]
  generalize (lg_sl ([.ref (a 0), .int x1, .int x2]) ++ List.replicate (3 - (lg_sl ([.ref (a 0), .int x1, .int x2])).length) Slot.unset).toArray = ls at hl ⊢
  have hl : lv_has ls 3 [(0, .ref (a 0)), (1, .int x1), (2, .int x2)] := hl
  exact w_X12_at_0 ⟨B.exec, B.bytes, hml, findClass_of_methodNamed B.named, fun w hw => atoms_spec (ws := Cond.code yX12_at cX12_at 3 (some .int) :: xTB) B.pre w (List.mem_cons_of_mem _ hw), hK, hI, hE⟩ B.returns B.notSynchronized hf (fun t0 e => e.symm) ⟨hP, va_S.rf⟩ (lv_sub hl [0, 1, 2] rfl)
end XWwalkM2
