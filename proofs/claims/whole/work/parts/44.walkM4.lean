section XWwalkM4
variable {p : Program} {l : Launch} {e : Env} {s : State} {m : MethodId} {args : Array Value} {below : List Frame} {meth : Method} {c : Code} {D : va_G} {cy : Nat → ClassId} {a z : Nat → Nat}
set_option maxHeartbeats 4000000 in
set_option maxRecDepth 100000 in
theorem w_X12_led_0 {x1 : Int32} (hM : xM p c cX12_led m s args RX12 2 D cy xmb a z) (hr : meth.sig.returnType = (some .int)) (hlk : meth.locks = false) {S' : xSt} {v' : Int32} {S : xSt} {q : (xSt × Int32)} (h : f_X12_led_0 x1 S = some q) (k0 : ∀ t0 : xSt × Int32, q = t0 → t0 = (S', v')) {H : Heap} {locs : List Loc} (hG : xG D cy xmb a S s H locs) {ls : Array Slot} (hl : lv_has ls 2 [(0, .ref (a 0)), (1, .int x1)]) : W p l e ({ frames := 1, cells := 0, slots := 0, locals := 22 } : Room) s m args below meth c H locs 0 0 (MQ below (xQi D cy xmb a S' v' s.heap.size) args s 0 0 (xA xmb a s.heap.size)) (F0 m 0 ls []) := by
  have hx := hM.1
  have hb := hM.2.1
  refine lv_iload_n hx hb dX12_led_0 rfl (lv_at hl 1 rfl) ?_
  refine lv_iconst (v := (5 : Int32)) hx hb dX12_led_1 (by decide) ?_
  refine x_icmp_ne (tgt := 12) hM h dX12_led_2 (by decide) (fun c_1 h => ?_) (fun c_1 h => ?_)
  · refine lv_iload_n hx hb dX12_led_12 rfl (lv_at hl 1 rfl) ?_
    refine lv_iconst (v := (0 : Int32)) hx hb dX12_led_13 (by decide) ?_
    refine lv_iconst (v := (4 : Int32)) hx hb dX12_led_14 (by decide) ?_
    refine x_cSi (As := [.int x1, .int (0 : Int32), .int (4 : Int32)]) (rest := []) hM hG xml_X12_142 xwt_X12_in h (fun S' v e => c_X12_in hM.2.2.2.2.2.2.1 e _) ⟨Nat.le_of_ble_eq_true rfl, Nat.le_of_ble_eq_true rfl⟩ rfl hl.1 rfl (Nat.le_of_ble_eq_true rfl) dX12_led_15 (fun S_2 v_3 H locs h hG => ?_)
    refine x_if_eq (tgt := 30) hM h dX12_led_18 (by decide) (fun c_4 h => ?_) (fun c_4 h => ?_)
    · refine lv_iconst (v := (-1 : Int32)) hx hb dX12_led_30 (by decide) ?_
      exact x_ri hM hG hr hlk rfl (k0 _ (Option.some.inj h).symm) dX12_led_31
    · refine lv_aload_n hx hb dX12_led_21 rfl (lv_at hl 0 rfl) ?_
      refine x_gr (r := 9) hM hG xfl_X12_36 xmt_0 (by decide) rfl dX12_led_22 ?_
      refine lv_iload_n hx hb dX12_led_25 rfl (lv_at hl 1 rfl) ?_
      refine x_iald hM hG xmt_9 h dX12_led_26 (fun v_5 h => ?_)
      refine lv_goto (tgt := 31) hx hb dX12_led_27 (by decide) ?_
      exact x_ri hM hG hr hlk rfl (k0 _ (Option.some.inj h).symm) dX12_led_31
  · refine lv_aload_n hx hb dX12_led_5 rfl (lv_at hl 0 rfl) ?_
    refine x_gi hM hG xfl_X12_107 xmt_0 (by decide) rfl h dX12_led_6 (fun v_6 h => ?_)
    refine lv_goto (tgt := 31) hx hb dX12_led_9 (by decide) ?_
    exact x_ri hM hG hr hlk rfl (k0 _ (Option.some.inj h).symm) dX12_led_31
set_option maxHeartbeats 4000000 in
set_option maxRecDepth 100000 in
theorem c_X12_led {l : Launch} {D : va_G} {cy : Nat → ClassId} {a z : Nat → Nat} (hI : xI xmb a) {S : xSt} {x1 : Int32} {S' : xSt} {v' : Int32} (hf : f_X12_led S x1 = some (S', v')) (sz : Nat) : Met l yX12_led (Cond.code yX12_led cX12_led 2 (some .int) :: xTB) ({ frames := 1, cells := 0, slots := 0, locals := 22 } : Room) (va_Pc [.ref (a 0), .int x1] (xPre D cy xmb a z S sz)) (xQi D cy xmb a S' v' sz) 0 0 (xA xmb a sz) := by
  refine Met.ofW (cc := cX12_led) (maxL := 2) (ret := (some .int)) (by decide) rfl ?_
  intro p e s m args below meth c s₁ B hml hv
  obtain ⟨rfl, hsz, hP, hK, hE⟩ := hv
  subst hsz
  have hl := lv_entry ([.ref (a 0), .int x1]) (n := 2) (Nat.le_of_ble_eq_true rfl)
  rw [lg_entry_eq]
  generalize (lg_sl ([.ref (a 0), .int x1]) ++ List.replicate (2 - (lg_sl ([.ref (a 0), .int x1])).length) Slot.unset).toArray = ls at hl ⊢
  have hl : lv_has ls 2 [(0, .ref (a 0)), (1, .int x1)] := hl
  exact w_X12_led_0 ⟨B.exec, B.bytes, hml, findClass_of_methodNamed B.named, fun w hw => atoms_spec (ws := Cond.code yX12_led cX12_led 2 (some .int) :: xTB) B.pre w (List.mem_cons_of_mem _ hw), hK, hI, hE⟩ B.returns B.notSynchronized hf (fun t0 e => e.symm) ⟨hP, va_S.rf⟩ (lv_sub hl [0, 1] rfl)
set_option maxHeartbeats 4000000 in
set_option maxRecDepth 100000 in
theorem w_X12_image_86 {x1 : Int32} (hM : xM p c cX12_image m s args RX12 3 D cy xmb a z) (hr : meth.sig.returnType = (some .int)) (hlk : meth.locks = false) {S' : xSt} {v' : Int32} {S : xSt} {q : ((xSt × Int32) ⊕ (xSt × Int32))} (h : f_X12_image_86 x1 S = some q) (k0 : ∀ t0 : xSt × Int32, q = (.inr t0) → t0 = (S', v')) (k1 : ∀ (S : xSt) (x1 : Int32), q = (.inl (S, x1)) → ∀ (H : Heap) (locs : List Loc) (ls : Array Slot), xG D cy xmb a S s H locs → lv_has ls 3 [(0, .ref (a 0)), (1, .int x1)] → W p l e ({ frames := 1, cells := 0, slots := 0, locals := 22 } : Room) s m args below meth c H locs 0 0 (MQ below (xQi D cy xmb a S' v' s.heap.size) args s 0 0 (xA xmb a s.heap.size)) (F0 m 51 ls [])) {H : Heap} {locs : List Loc} (hG : xG D cy xmb a S s H locs) {ls : Array Slot} (hl : lv_has ls 3 [(0, .ref (a 0)), (1, .int x1)]) : W p l e ({ frames := 1, cells := 0, slots := 0, locals := 22 } : Room) s m args below meth c H locs 0 0 (MQ below (xQi D cy xmb a S' v' s.heap.size) args s 0 0 (xA xmb a s.heap.size)) (F0 m 86 ls []) := by
  have hx := hM.1
  have hb := hM.2.1
  refine x_iinc hM (fun v => [(1, .int v), (0, .ref (a 0))]) h dX12_image_86 hl (k := 1) rfl (by decide) (by decide) (fun _ => rfl) (fun v_1 ls h hl => ?_)
  refine lv_goto (tgt := 51) hx hb dX12_image_89 (by decide) ?_
  exact k1 _ _ (Option.some.inj h).symm _ _ _ hG (lv_sub hl [1, 0] rfl)
set_option maxHeartbeats 4000000 in
set_option maxRecDepth 100000 in
theorem w_X12_image_59 {x1 : Int32} {x2 : Int32} (hM : xM p c cX12_image m s args RX12 3 D cy xmb a z) (hr : meth.sig.returnType = (some .int)) (hlk : meth.locks = false) {S' : xSt} {v' : Int32} {S : xSt} {q : ((xSt × Int32) ⊕ ((xSt × Int32) ⊕ (xSt × Int32)))} (h : f_X12_image_59 x1 S x2 = some q) (k0 : ∀ t0 : xSt × Int32, q = (.inr (.inr t0)) → t0 = (S', v')) (k1 : ∀ (S : xSt) (x1 : Int32), q = (.inr (.inl (S, x1))) → ∀ (H : Heap) (locs : List Loc) (ls : Array Slot), xG D cy xmb a S s H locs → lv_has ls 3 [(0, .ref (a 0)), (1, .int x1)] → W p l e ({ frames := 1, cells := 0, slots := 0, locals := 22 } : Room) s m args below meth c H locs 0 0 (MQ below (xQi D cy xmb a S' v' s.heap.size) args s 0 0 (xA xmb a s.heap.size)) (F0 m 51 ls [])) (k2 : ∀ (S : xSt) (x2 : Int32), q = (.inl (S, x2)) → ∀ (H : Heap) (locs : List Loc) (ls : Array Slot), xG D cy xmb a S s H locs → lv_has ls 3 [(0, .ref (a 0)), (1, .int x1), (2, .int x2)] → W p l e ({ frames := 1, cells := 0, slots := 0, locals := 22 } : Room) s m args below meth c H locs 0 0 (MQ below (xQi D cy xmb a S' v' s.heap.size) args s 0 0 (xA xmb a s.heap.size)) (F0 m 59 ls [])) {H : Heap} {locs : List Loc} (hG : xG D cy xmb a S s H locs) {ls : Array Slot} (hl : lv_has ls 3 [(0, .ref (a 0)), (1, .int x1), (2, .int x2)]) : W p l e ({ frames := 1, cells := 0, slots := 0, locals := 22 } : Room) s m args below meth c H locs 0 0 (MQ below (xQi D cy xmb a S' v' s.heap.size) args s 0 0 (xA xmb a s.heap.size)) (F0 m 59 ls []) := by
  have hx := hM.1
  have hb := hM.2.1
  refine lv_iload_n hx hb dX12_image_59 rfl (lv_at hl 2 rfl) ?_
  refine lv_iconst (v := (5 : Int32)) hx hb dX12_image_60 (by decide) ?_
  refine x_icmp_ge (tgt := 86) hM h dX12_image_61 (by decide) (fun c_1 h => ?_) (fun c_1 h => ?_)
  · obtain ⟨q1, h, e1⟩ := xmr_at h
    exact w_X12_image_86 hM hr hlk h (fun t0 e => k0 t0 (by rw [e1, e])) (fun S x1 e => k1 S x1 (by rw [e1, e])) hG (lv_sub hl [0, 1] rfl)
  · refine lv_aload_n hx hb dX12_image_64 rfl (lv_at hl 0 rfl) ?_
    refine x_gr (r := 33) hM hG xfl_X12_114 xmt_0 (by decide) rfl dX12_image_65 ?_
    refine lv_iconst (v := (5 : Int32)) hx hb dX12_image_68 (by decide) ?_
    refine lv_iload_n hx hb dX12_image_69 rfl (lv_at hl 1 rfl) ?_
    refine x_imul hM h dX12_image_70 (fun v_2 h => ?_)
    refine lv_iload_n hx hb dX12_image_71 rfl (lv_at hl 2 rfl) ?_
    refine x_iadd hM h dX12_image_72 (fun v_3 h => ?_)
    refine lv_aload_n hx hb dX12_image_73 rfl (lv_at hl 0 rfl) ?_
    refine lv_iload_n hx hb dX12_image_74 rfl (lv_at hl 2 rfl) ?_
    refine lv_iload_n hx hb dX12_image_75 rfl (lv_at hl 1 rfl) ?_
    refine x_cVi (As := [.int x2, .int x1]) (rest := [.int v_3, .ref (a 33)]) hM hG xml_X12_159 xwi_X12_valueAt xws_X12_valueAt xmt_0 (by decide) rfl h (fun S' v e => c_X12_valueAt hM.2.2.2.2.2.2.1 e _) ⟨Nat.le_of_ble_eq_true rfl, Nat.le_of_ble_eq_true rfl⟩ rfl hl.1 rfl (Nat.le_of_ble_eq_true rfl) dX12_image_76 (fun S_4 v_5 H locs h hG => ?_)
    refine x_iast hM hG xmt_33 h dX12_image_79 (fun S_6 H locs h hG => ?_)
    refine x_iinc hM (fun v => [(2, .int v), (0, .ref (a 0)), (1, .int x1)]) h dX12_image_80 hl (k := 2) rfl (by decide) (by decide) (fun _ => rfl) (fun v_7 ls h hl => ?_)
    refine lv_goto (tgt := 59) hx hb dX12_image_83 (by decide) ?_
    exact k2 _ _ (Option.some.inj h).symm _ _ _ hG (lv_sub hl [1, 2, 0] rfl)
theorem wl_X12_image_59 {x1 : Int32} (hM : xM p c cX12_image m s args RX12 3 D cy xmb a z) (hr : meth.sig.returnType = (some .int)) (hlk : meth.locks = false) {S' : xSt} {v' : Int32} {q : ((xSt × Int32) ⊕ (xSt × Int32))} (k0 : ∀ t0 : xSt × Int32, q = (.inr t0) → t0 = (S', v')) (k1 : ∀ (S : xSt) (x1 : Int32), q = (.inl (S, x1)) → ∀ (H : Heap) (locs : List Loc) (ls : Array Slot), xG D cy xmb a S s H locs → lv_has ls 3 [(0, .ref (a 0)), (1, .int x1)] → W p l e ({ frames := 1, cells := 0, slots := 0, locals := 22 } : Room) s m args below meth c H locs 0 0 (MQ below (xQi D cy xmb a S' v' s.heap.size) args s 0 0 (xA xmb a s.heap.size)) (F0 m 51 ls [])) (n : Nat) : ∀ (S : xSt) (x2 : Int32) (H : Heap) (locs : List Loc) (ls : Array Slot), xlp (fun q : (xSt × Int32) => f_X12_image_59 x1 q.1 q.2) n (S, x2) = some q → xG D cy xmb a S s H locs → lv_has ls 3 [(0, .ref (a 0)), (1, .int x1), (2, .int x2)] → W p l e ({ frames := 1, cells := 0, slots := 0, locals := 22 } : Room) s m args below meth c H locs 0 0 (MQ below (xQi D cy xmb a S' v' s.heap.size) args s 0 0 (xA xmb a s.heap.size)) (F0 m 59 ls []) := by
  induction n with
  | zero => intro S x2 H locs ls h; exact (xlp_0 h).elim
  | succ n ih =>
    intro S x2 H locs ls h hG hl
    obtain ⟨q1, hq, hc, he⟩ := xlp_at h
    exact w_X12_image_59 hM hr hlk (q := q1) hq (fun t0 e => k0 t0 (he _ e).symm) (fun S x1 e => k1 S x1 (he _ e).symm) (fun S x2 e H locs ls hG hl => ih S x2 H locs ls (hc _ e) hG hl) hG hl
set_option maxHeartbeats 4000000 in
set_option maxRecDepth 100000 in
theorem w_X12_image_117 (hM : xM p c cX12_image m s args RX12 3 D cy xmb a z) (hr : meth.sig.returnType = (some .int)) (hlk : meth.locks = false) {S' : xSt} {v' : Int32} {S : xSt} {q : (xSt × Int32)} (h : f_X12_image_117 S = some q) (k0 : ∀ t0 : xSt × Int32, q = t0 → t0 = (S', v')) {H : Heap} {locs : List Loc} (hG : xG D cy xmb a S s H locs) {ls : Array Slot} (hl : lv_has ls 3 [(0, .ref (a 0))]) : W p l e ({ frames := 1, cells := 0, slots := 0, locals := 22 } : Room) s m args below meth c H locs 0 0 (MQ below (xQi D cy xmb a S' v' s.heap.size) args s 0 0 (xA xmb a s.heap.size)) (F0 m 117 ls []) := by
  have hx := hM.1
  have hb := hM.2.1
  refine lv_aload_n hx hb dX12_image_117 rfl (lv_at hl 0 rfl) ?_
  refine x_gr (r := 9) hM hG xfl_X12_36 xmt_0 (by decide) rfl dX12_image_118 ?_
  refine lv_iconst (v := (4 : Int32)) hx hb dX12_image_121 (by decide) ?_
  refine x_iald hM hG xmt_9 h dX12_image_122 (fun v_1 h => ?_)
  exact x_ri hM hG hr hlk rfl (k0 _ (Option.some.inj h).symm) dX12_image_123
set_option maxHeartbeats 4000000 in
set_option maxRecDepth 100000 in
theorem w_X12_image_94 {x1 : Int32} (hM : xM p c cX12_image m s args RX12 3 D cy xmb a z) (hr : meth.sig.returnType = (some .int)) (hlk : meth.locks = false) {S' : xSt} {v' : Int32} {S : xSt} {q : ((xSt × Int32) ⊕ (xSt × Int32))} (h : f_X12_image_94 S x1 = some q) (k0 : ∀ t0 : xSt × Int32, q = (.inr t0) → t0 = (S', v')) (k1 : ∀ (S : xSt) (x1 : Int32), q = (.inl (S, x1)) → ∀ (H : Heap) (locs : List Loc) (ls : Array Slot), xG D cy xmb a S s H locs → lv_has ls 3 [(0, .ref (a 0)), (1, .int x1)] → W p l e ({ frames := 1, cells := 0, slots := 0, locals := 22 } : Room) s m args below meth c H locs 0 0 (MQ below (xQi D cy xmb a S' v' s.heap.size) args s 0 0 (xA xmb a s.heap.size)) (F0 m 94 ls [])) {H : Heap} {locs : List Loc} (hG : xG D cy xmb a S s H locs) {ls : Array Slot} (hl : lv_has ls 3 [(0, .ref (a 0)), (1, .int x1)]) : W p l e ({ frames := 1, cells := 0, slots := 0, locals := 22 } : Room) s m args below meth c H locs 0 0 (MQ below (xQi D cy xmb a S' v' s.heap.size) args s 0 0 (xA xmb a s.heap.size)) (F0 m 94 ls []) := by
  have hx := hM.1
  have hb := hM.2.1
  refine lv_iload_n hx hb dX12_image_94 rfl (lv_at hl 1 rfl) ?_
  refine lv_iconst (v := (5 : Int32)) hx hb dX12_image_95 (by decide) ?_
  refine x_icmp_ge (tgt := 117) hM h dX12_image_96 (by decide) (fun c_1 h => ?_) (fun c_1 h => ?_)
  · obtain ⟨q1, h, e1⟩ := xmr_at h
    exact w_X12_image_117 hM hr hlk h (fun t0 e => k0 t0 (by rw [e1, e])) hG (lv_sub hl [0] rfl)
  · refine lv_aload_n hx hb dX12_image_99 rfl (lv_at hl 0 rfl) ?_
    refine x_gr (r := 34) hM hG xfl_X12_117 xmt_0 (by decide) rfl dX12_image_100 ?_
    refine lv_iload_n hx hb dX12_image_103 rfl (lv_at hl 1 rfl) ?_
    refine lv_aload_n hx hb dX12_image_104 rfl (lv_at hl 0 rfl) ?_
    refine x_gr (r := 9) hM hG xfl_X12_36 xmt_0 (by decide) rfl dX12_image_105 ?_
    refine lv_iload_n hx hb dX12_image_108 rfl (lv_at hl 1 rfl) ?_
    refine x_iald hM hG xmt_9 h dX12_image_109 (fun v_2 h => ?_)
    refine x_iast hM hG xmt_34 h dX12_image_110 (fun S_3 H locs h hG => ?_)
    refine x_iinc hM (fun v => [(1, .int v), (0, .ref (a 0))]) h dX12_image_111 hl (k := 1) rfl (by decide) (by decide) (fun _ => rfl) (fun v_4 ls h hl => ?_)
    refine lv_goto (tgt := 94) hx hb dX12_image_114 (by decide) ?_
    exact k1 _ _ (Option.some.inj h).symm _ _ _ hG (lv_sub hl [1, 0] rfl)
theorem wl_X12_image_94 (hM : xM p c cX12_image m s args RX12 3 D cy xmb a z) (hr : meth.sig.returnType = (some .int)) (hlk : meth.locks = false) {S' : xSt} {v' : Int32} {q : (xSt × Int32)} (k0 : ∀ t0 : xSt × Int32, q = t0 → t0 = (S', v')) (n : Nat) : ∀ (S : xSt) (x1 : Int32) (H : Heap) (locs : List Loc) (ls : Array Slot), xlp (fun q : (xSt × Int32) => f_X12_image_94 q.1 q.2) n (S, x1) = some q → xG D cy xmb a S s H locs → lv_has ls 3 [(0, .ref (a 0)), (1, .int x1)] → W p l e ({ frames := 1, cells := 0, slots := 0, locals := 22 } : Room) s m args below meth c H locs 0 0 (MQ below (xQi D cy xmb a S' v' s.heap.size) args s 0 0 (xA xmb a s.heap.size)) (F0 m 94 ls []) := by
  induction n with
  | zero => intro S x1 H locs ls h; exact (xlp_0 h).elim
  | succ n ih =>
    intro S x1 H locs ls h hG hl
    obtain ⟨q1, hq, hc, he⟩ := xlp_at h
    exact w_X12_image_94 hM hr hlk (q := q1) hq (fun t0 e => k0 t0 (he _ e).symm) (fun S x1 e H locs ls hG hl => ih S x1 H locs ls (hc _ e) hG hl) hG hl
set_option maxHeartbeats 4000000 in
set_option maxRecDepth 100000 in
theorem w_X12_image_92 (hM : xM p c cX12_image m s args RX12 3 D cy xmb a z) (hr : meth.sig.returnType = (some .int)) (hlk : meth.locks = false) {S' : xSt} {v' : Int32} {S : xSt} {q : (xSt × Int32)} (h : f_X12_image_92 S = some q) (k0 : ∀ t0 : xSt × Int32, q = t0 → t0 = (S', v')) {H : Heap} {locs : List Loc} (hG : xG D cy xmb a S s H locs) {ls : Array Slot} (hl : lv_has ls 3 [(0, .ref (a 0))]) : W p l e ({ frames := 1, cells := 0, slots := 0, locals := 22 } : Room) s m args below meth c H locs 0 0 (MQ below (xQi D cy xmb a S' v' s.heap.size) args s 0 0 (xA xmb a s.heap.size)) (F0 m 92 ls []) := by
  have hx := hM.1
  have hb := hM.2.1
  refine lv_iconst (v := (0 : Int32)) hx hb dX12_image_92 (by decide) ?_
  refine lv_istore_n (lv' := [(1, .int (0 : Int32)), (0, .ref (a 0))]) hx hb dX12_image_93 rfl hl (by decide) rfl (fun ls hl => ?_)
  exact wl_X12_image_94 hM hr hlk (fun t0 e => k0 t0 e) 5000 _ _ _ _ _ h hG (lv_sub hl [1, 0] rfl)
set_option maxHeartbeats 4000000 in
set_option maxRecDepth 100000 in
theorem w_X12_image_51 {x1 : Int32} (hM : xM p c cX12_image m s args RX12 3 D cy xmb a z) (hr : meth.sig.returnType = (some .int)) (hlk : meth.locks = false) {S' : xSt} {v' : Int32} {S : xSt} {q : ((xSt × Int32) ⊕ (xSt × Int32))} (h : f_X12_image_51 S x1 = some q) (k0 : ∀ t0 : xSt × Int32, q = (.inr t0) → t0 = (S', v')) (k1 : ∀ (S : xSt) (x1 : Int32), q = (.inl (S, x1)) → ∀ (H : Heap) (locs : List Loc) (ls : Array Slot), xG D cy xmb a S s H locs → lv_has ls 3 [(0, .ref (a 0)), (1, .int x1)] → W p l e ({ frames := 1, cells := 0, slots := 0, locals := 22 } : Room) s m args below meth c H locs 0 0 (MQ below (xQi D cy xmb a S' v' s.heap.size) args s 0 0 (xA xmb a s.heap.size)) (F0 m 51 ls [])) {H : Heap} {locs : List Loc} (hG : xG D cy xmb a S s H locs) {ls : Array Slot} (hl : lv_has ls 3 [(0, .ref (a 0)), (1, .int x1)]) : W p l e ({ frames := 1, cells := 0, slots := 0, locals := 22 } : Room) s m args below meth c H locs 0 0 (MQ below (xQi D cy xmb a S' v' s.heap.size) args s 0 0 (xA xmb a s.heap.size)) (F0 m 51 ls []) := by
  have hx := hM.1
  have hb := hM.2.1
  refine lv_iload_n hx hb dX12_image_51 rfl (lv_at hl 1 rfl) ?_
  refine lv_bipush (v := (30 : Int32)) hx hb dX12_image_52 (by decide) ?_
  refine x_icmp_ge (tgt := 92) hM h dX12_image_54 (by decide) (fun c_1 h => ?_) (fun c_1 h => ?_)
  · obtain ⟨q1, h, e1⟩ := xmr_at h
    exact w_X12_image_92 hM hr hlk h (fun t0 e => k0 t0 (by rw [e1, e])) hG (lv_sub hl [0] rfl)
  · refine lv_iconst (v := (0 : Int32)) hx hb dX12_image_57 (by decide) ?_
    refine lv_istore_n (lv' := [(2, .int (0 : Int32)), (0, .ref (a 0)), (1, .int x1)]) hx hb dX12_image_58 rfl hl (by decide) rfl (fun ls hl => ?_)
    exact wl_X12_image_59 hM hr hlk (fun t0 e => k0 t0 e) (fun S x1 e => k1 S x1 e) 5000 _ _ _ _ _ h hG (lv_sub hl [1, 2, 0] rfl)
theorem wl_X12_image_51 (hM : xM p c cX12_image m s args RX12 3 D cy xmb a z) (hr : meth.sig.returnType = (some .int)) (hlk : meth.locks = false) {S' : xSt} {v' : Int32} {q : (xSt × Int32)} (k0 : ∀ t0 : xSt × Int32, q = t0 → t0 = (S', v')) (n : Nat) : ∀ (S : xSt) (x1 : Int32) (H : Heap) (locs : List Loc) (ls : Array Slot), xlp (fun q : (xSt × Int32) => f_X12_image_51 q.1 q.2) n (S, x1) = some q → xG D cy xmb a S s H locs → lv_has ls 3 [(0, .ref (a 0)), (1, .int x1)] → W p l e ({ frames := 1, cells := 0, slots := 0, locals := 22 } : Room) s m args below meth c H locs 0 0 (MQ below (xQi D cy xmb a S' v' s.heap.size) args s 0 0 (xA xmb a s.heap.size)) (F0 m 51 ls []) := by
  induction n with
  | zero => intro S x1 H locs ls h; exact (xlp_0 h).elim
  | succ n ih =>
    intro S x1 H locs ls h hG hl
    obtain ⟨q1, hq, hc, he⟩ := xlp_at h
    exact w_X12_image_51 hM hr hlk (q := q1) hq (fun t0 e => k0 t0 (he _ e).symm) (fun S x1 e H locs ls hG hl => ih S x1 H locs ls (hc _ e) hG hl) hG hl
set_option maxHeartbeats 4000000 in
set_option maxRecDepth 100000 in
theorem w_X12_image_49 (hM : xM p c cX12_image m s args RX12 3 D cy xmb a z) (hr : meth.sig.returnType = (some .int)) (hlk : meth.locks = false) {S' : xSt} {v' : Int32} {S : xSt} {q : (xSt × Int32)} (h : f_X12_image_49 S = some q) (k0 : ∀ t0 : xSt × Int32, q = t0 → t0 = (S', v')) {H : Heap} {locs : List Loc} (hG : xG D cy xmb a S s H locs) {ls : Array Slot} (hl : lv_has ls 3 [(0, .ref (a 0))]) : W p l e ({ frames := 1, cells := 0, slots := 0, locals := 22 } : Room) s m args below meth c H locs 0 0 (MQ below (xQi D cy xmb a S' v' s.heap.size) args s 0 0 (xA xmb a s.heap.size)) (F0 m 49 ls []) := by
  have hx := hM.1
  have hb := hM.2.1
  refine lv_iconst (v := (0 : Int32)) hx hb dX12_image_49 (by decide) ?_
  refine lv_istore_n (lv' := [(1, .int (0 : Int32)), (0, .ref (a 0))]) hx hb dX12_image_50 rfl hl (by decide) rfl (fun ls hl => ?_)
  exact wl_X12_image_51 hM hr hlk (fun t0 e => k0 t0 e) 5000 _ _ _ _ _ h hG (lv_sub hl [1, 0] rfl)
set_option maxHeartbeats 4000000 in
set_option maxRecDepth 100000 in
theorem w_X12_image_25 {x1 : Int32} (hM : xM p c cX12_image m s args RX12 3 D cy xmb a z) (hr : meth.sig.returnType = (some .int)) (hlk : meth.locks = false) {S' : xSt} {v' : Int32} {S : xSt} {q : ((xSt × Int32) ⊕ (xSt × Int32))} (h : f_X12_image_25 S x1 = some q) (k0 : ∀ t0 : xSt × Int32, q = (.inr t0) → t0 = (S', v')) (k1 : ∀ (S : xSt) (x1 : Int32), q = (.inl (S, x1)) → ∀ (H : Heap) (locs : List Loc) (ls : Array Slot), xG D cy xmb a S s H locs → lv_has ls 3 [(0, .ref (a 0)), (1, .int x1)] → W p l e ({ frames := 1, cells := 0, slots := 0, locals := 22 } : Room) s m args below meth c H locs 0 0 (MQ below (xQi D cy xmb a S' v' s.heap.size) args s 0 0 (xA xmb a s.heap.size)) (F0 m 25 ls [])) {H : Heap} {locs : List Loc} (hG : xG D cy xmb a S s H locs) {ls : Array Slot} (hl : lv_has ls 3 [(0, .ref (a 0)), (1, .int x1)]) : W p l e ({ frames := 1, cells := 0, slots := 0, locals := 22 } : Room) s m args below meth c H locs 0 0 (MQ below (xQi D cy xmb a S' v' s.heap.size) args s 0 0 (xA xmb a s.heap.size)) (F0 m 25 ls []) := by
  have hx := hM.1
  have hb := hM.2.1
  refine lv_iload_n hx hb dX12_image_25 rfl (lv_at hl 1 rfl) ?_
  refine lv_bipush (v := (6 : Int32)) hx hb dX12_image_26 (by decide) ?_
  refine x_icmp_ge (tgt := 49) hM h dX12_image_28 (by decide) (fun c_1 h => ?_) (fun c_1 h => ?_)
  · obtain ⟨q1, h, e1⟩ := xmr_at h
    exact w_X12_image_49 hM hr hlk h (fun t0 e => k0 t0 (by rw [e1, e])) hG (lv_sub hl [0] rfl)
  · refine lv_aload_n hx hb dX12_image_31 rfl (lv_at hl 0 rfl) ?_
    refine x_gr (r := 32) hM hG xfl_X12_111 xmt_0 (by decide) rfl dX12_image_32 ?_
    refine lv_iload_n hx hb dX12_image_35 rfl (lv_at hl 1 rfl) ?_
    refine lv_aload_n hx hb dX12_image_36 rfl (lv_at hl 0 rfl) ?_
    refine x_gr (r := 1) hM hG xfl_X12_9 xmt_0 (by decide) rfl dX12_image_37 ?_
    refine lv_iload_n hx hb dX12_image_40 rfl (lv_at hl 1 rfl) ?_
    refine x_iald hM hG xmt_1 h dX12_image_41 (fun v_2 h => ?_)
    refine x_iast hM hG xmt_32 h dX12_image_42 (fun S_3 H locs h hG => ?_)
    refine x_iinc hM (fun v => [(1, .int v), (0, .ref (a 0))]) h dX12_image_43 hl (k := 1) rfl (by decide) (by decide) (fun _ => rfl) (fun v_4 ls h hl => ?_)
    refine lv_goto (tgt := 25) hx hb dX12_image_46 (by decide) ?_
    exact k1 _ _ (Option.some.inj h).symm _ _ _ hG (lv_sub hl [1, 0] rfl)
theorem wl_X12_image_25 (hM : xM p c cX12_image m s args RX12 3 D cy xmb a z) (hr : meth.sig.returnType = (some .int)) (hlk : meth.locks = false) {S' : xSt} {v' : Int32} {q : (xSt × Int32)} (k0 : ∀ t0 : xSt × Int32, q = t0 → t0 = (S', v')) (n : Nat) : ∀ (S : xSt) (x1 : Int32) (H : Heap) (locs : List Loc) (ls : Array Slot), xlp (fun q : (xSt × Int32) => f_X12_image_25 q.1 q.2) n (S, x1) = some q → xG D cy xmb a S s H locs → lv_has ls 3 [(0, .ref (a 0)), (1, .int x1)] → W p l e ({ frames := 1, cells := 0, slots := 0, locals := 22 } : Room) s m args below meth c H locs 0 0 (MQ below (xQi D cy xmb a S' v' s.heap.size) args s 0 0 (xA xmb a s.heap.size)) (F0 m 25 ls []) := by
  induction n with
  | zero => intro S x1 H locs ls h; exact (xlp_0 h).elim
  | succ n ih =>
    intro S x1 H locs ls h hG hl
    obtain ⟨q1, hq, hc, he⟩ := xlp_at h
    exact w_X12_image_25 hM hr hlk (q := q1) hq (fun t0 e => k0 t0 (he _ e).symm) (fun S x1 e H locs ls hG hl => ih S x1 H locs ls (hc _ e) hG hl) hG hl
set_option maxHeartbeats 4000000 in
set_option maxRecDepth 100000 in
theorem w_X12_image_0 (hM : xM p c cX12_image m s args RX12 3 D cy xmb a z) (hr : meth.sig.returnType = (some .int)) (hlk : meth.locks = false) {S' : xSt} {v' : Int32} {S : xSt} {q : (xSt × Int32)} (h : f_X12_image_0 S = some q) (k0 : ∀ t0 : xSt × Int32, q = t0 → t0 = (S', v')) {H : Heap} {locs : List Loc} (hG : xG D cy xmb a S s H locs) {ls : Array Slot} (hl : lv_has ls 3 [(0, .ref (a 0))]) : W p l e ({ frames := 1, cells := 0, slots := 0, locals := 22 } : Room) s m args below meth c H locs 0 0 (MQ below (xQi D cy xmb a S' v' s.heap.size) args s 0 0 (xA xmb a s.heap.size)) (F0 m 0 ls []) := by
  have hx := hM.1
  have hb := hM.2.1
  refine lv_aload_n hx hb dX12_image_0 rfl (lv_at hl 0 rfl) ?_
  refine lv_iconst (v := (1 : Int32)) hx hb dX12_image_1 (by decide) ?_
  refine x_pi hM hG xfl_X12_393 xfp_X12_47 xmt_0 (by decide) rfl rfl rfl h dX12_image_2 (fun S_1 H locs h hG => ?_)
  refine lv_aload_n hx hb dX12_image_5 rfl (lv_at hl 0 rfl) ?_
  refine lv_aload_n hx hb dX12_image_6 rfl (lv_at hl 0 rfl) ?_
  refine x_gr (r := 8) hM hG xfl_X12_33 xmt_0 (by decide) rfl dX12_image_7 ?_
  refine lv_iconst (v := (1 : Int32)) hx hb dX12_image_10 (by decide) ?_
  refine x_iald hM hG xmt_8 h dX12_image_11 (fun v_2 h => ?_)
  refine x_pi hM hG xfl_X12_396 xfp_X12_48 xmt_0 (by decide) rfl rfl rfl h dX12_image_12 (fun S_3 H locs h hG => ?_)
  refine lv_aload_n hx hb dX12_image_15 rfl (lv_at hl 0 rfl) ?_
  refine lv_aload_n hx hb dX12_image_16 rfl (lv_at hl 0 rfl) ?_
  refine x_gi hM hG xfl_X12_107 xmt_0 (by decide) rfl h dX12_image_17 (fun v_4 h => ?_)
  refine x_pi hM hG xfl_X12_399 xfp_X12_49 xmt_0 (by decide) rfl rfl rfl h dX12_image_20 (fun S_5 H locs h hG => ?_)
  refine lv_iconst (v := (0 : Int32)) hx hb dX12_image_23 (by decide) ?_
  refine lv_istore_n (lv' := [(1, .int (0 : Int32)), (0, .ref (a 0))]) hx hb dX12_image_24 rfl hl (by decide) rfl (fun ls hl => ?_)
  exact wl_X12_image_25 hM hr hlk (fun t0 e => k0 t0 e) 5000 _ _ _ _ _ h hG (lv_sub hl [1, 0] rfl)
set_option maxHeartbeats 4000000 in
set_option maxRecDepth 100000 in
theorem c_X12_image {l : Launch} {D : va_G} {cy : Nat → ClassId} {a z : Nat → Nat} (hI : xI xmb a) {S : xSt} {S' : xSt} {v' : Int32} (hf : f_X12_image S = some (S', v')) (sz : Nat) : Met l yX12_image (Cond.code yX12_image cX12_image 3 (some .int) :: xTB) ({ frames := 1, cells := 0, slots := 0, locals := 22 } : Room) (va_Pc [.ref (a 0)] (xPre D cy xmb a z S sz)) (xQi D cy xmb a S' v' sz) 0 0 (xA xmb a sz) := by
  refine Met.ofW (cc := cX12_image) (maxL := 3) (ret := (some .int)) (by decide) rfl ?_
  intro p e s m args below meth c s₁ B hml hv
  obtain ⟨rfl, hsz, hP, hK, hE⟩ := hv
  subst hsz
  have hl := lv_entry ([.ref (a 0)]) (n := 3) (Nat.le_of_ble_eq_true rfl)
  rw [lg_entry_eq]
  generalize (lg_sl ([.ref (a 0)]) ++ List.replicate (3 - (lg_sl ([.ref (a 0)])).length) Slot.unset).toArray = ls at hl ⊢
  have hl : lv_has ls 3 [(0, .ref (a 0))] := hl
  exact w_X12_image_0 ⟨B.exec, B.bytes, hml, findClass_of_methodNamed B.named, fun w hw => atoms_spec (ws := Cond.code yX12_image cX12_image 3 (some .int) :: xTB) B.pre w (List.mem_cons_of_mem _ hw), hK, hI, hE⟩ B.returns B.notSynchronized hf (fun t0 e => e.symm) ⟨hP, va_S.rf⟩ (lv_sub hl [0] rfl)
set_option maxHeartbeats 4000000 in
set_option maxRecDepth 100000 in
theorem w_X12_back_91 {x1 : Int32} (hM : xM p c cX12_back m s args RX12 3 D cy xmb a z) (hr : meth.sig.returnType = (some .int)) (hlk : meth.locks = false) {S' : xSt} {v' : Int32} {S : xSt} {q : ((xSt × Int32) ⊕ (xSt × Int32))} (h : f_X12_back_91 x1 S = some q) (k0 : ∀ t0 : xSt × Int32, q = (.inr t0) → t0 = (S', v')) (k1 : ∀ (S : xSt) (x1 : Int32), q = (.inl (S, x1)) → ∀ (H : Heap) (locs : List Loc) (ls : Array Slot), xG D cy xmb a S s H locs → lv_has ls 3 [(0, .ref (a 0)), (1, .int x1)] → W p l e ({ frames := 1, cells := 0, slots := 0, locals := 23 } : Room) s m args below meth c H locs 0 0 (MQ below (xQi D cy xmb a S' v' s.heap.size) args s 0 0 (xA xmb a s.heap.size)) (F0 m 56 ls [])) {H : Heap} {locs : List Loc} (hG : xG D cy xmb a S s H locs) {ls : Array Slot} (hl : lv_has ls 3 [(0, .ref (a 0)), (1, .int x1)]) : W p l e ({ frames := 1, cells := 0, slots := 0, locals := 23 } : Room) s m args below meth c H locs 0 0 (MQ below (xQi D cy xmb a S' v' s.heap.size) args s 0 0 (xA xmb a s.heap.size)) (F0 m 91 ls []) := by
  have hx := hM.1
  have hb := hM.2.1
  refine x_iinc hM (fun v => [(1, .int v), (0, .ref (a 0))]) h dX12_back_91 hl (k := 1) rfl (by decide) (by decide) (fun _ => rfl) (fun v_1 ls h hl => ?_)
  refine lv_goto (tgt := 56) hx hb dX12_back_94 (by decide) ?_
  exact k1 _ _ (Option.some.inj h).symm _ _ _ hG (lv_sub hl [1, 0] rfl)
set_option maxHeartbeats 4000000 in
set_option maxRecDepth 100000 in
theorem w_X12_back_64 {x1 : Int32} {x2 : Int32} (hM : xM p c cX12_back m s args RX12 3 D cy xmb a z) (hr : meth.sig.returnType = (some .int)) (hlk : meth.locks = false) {S' : xSt} {v' : Int32} {S : xSt} {q : ((xSt × Int32) ⊕ ((xSt × Int32) ⊕ (xSt × Int32)))} (h : f_X12_back_64 x1 S x2 = some q) (k0 : ∀ t0 : xSt × Int32, q = (.inr (.inr t0)) → t0 = (S', v')) (k1 : ∀ (S : xSt) (x1 : Int32), q = (.inr (.inl (S, x1))) → ∀ (H : Heap) (locs : List Loc) (ls : Array Slot), xG D cy xmb a S s H locs → lv_has ls 3 [(0, .ref (a 0)), (1, .int x1)] → W p l e ({ frames := 1, cells := 0, slots := 0, locals := 23 } : Room) s m args below meth c H locs 0 0 (MQ below (xQi D cy xmb a S' v' s.heap.size) args s 0 0 (xA xmb a s.heap.size)) (F0 m 56 ls [])) (k2 : ∀ (S : xSt) (x2 : Int32), q = (.inl (S, x2)) → ∀ (H : Heap) (locs : List Loc) (ls : Array Slot), xG D cy xmb a S s H locs → lv_has ls 3 [(0, .ref (a 0)), (1, .int x1), (2, .int x2)] → W p l e ({ frames := 1, cells := 0, slots := 0, locals := 23 } : Room) s m args below meth c H locs 0 0 (MQ below (xQi D cy xmb a S' v' s.heap.size) args s 0 0 (xA xmb a s.heap.size)) (F0 m 64 ls [])) {H : Heap} {locs : List Loc} (hG : xG D cy xmb a S s H locs) {ls : Array Slot} (hl : lv_has ls 3 [(0, .ref (a 0)), (1, .int x1), (2, .int x2)]) : W p l e ({ frames := 1, cells := 0, slots := 0, locals := 23 } : Room) s m args below meth c H locs 0 0 (MQ below (xQi D cy xmb a S' v' s.heap.size) args s 0 0 (xA xmb a s.heap.size)) (F0 m 64 ls []) := by
  have hx := hM.1
  have hb := hM.2.1
  refine lv_iload_n hx hb dX12_back_64 rfl (lv_at hl 2 rfl) ?_
  refine lv_iconst (v := (5 : Int32)) hx hb dX12_back_65 (by decide) ?_
  refine x_icmp_ge (tgt := 91) hM h dX12_back_66 (by decide) (fun c_1 h => ?_) (fun c_1 h => ?_)
  · obtain ⟨q1, h, e1⟩ := xmr_at h
    exact w_X12_back_91 hM hr hlk h (fun t0 e => k0 t0 (by rw [e1, e])) (fun S x1 e => k1 S x1 (by rw [e1, e])) hG (lv_sub hl [0, 1] rfl)
  · refine lv_aload_n hx hb dX12_back_69 rfl (lv_at hl 0 rfl) ?_
    refine lv_iload_n hx hb dX12_back_70 rfl (lv_at hl 2 rfl) ?_
    refine lv_iload_n hx hb dX12_back_71 rfl (lv_at hl 1 rfl) ?_
    refine lv_aload_n hx hb dX12_back_72 rfl (lv_at hl 0 rfl) ?_
    refine x_gr (r := 33) hM hG xfl_X12_114 xmt_0 (by decide) rfl dX12_back_73 ?_
    refine lv_iconst (v := (5 : Int32)) hx hb dX12_back_76 (by decide) ?_
    refine lv_iload_n hx hb dX12_back_77 rfl (lv_at hl 1 rfl) ?_
    refine x_imul hM h dX12_back_78 (fun v_2 h => ?_)
    refine lv_iload_n hx hb dX12_back_79 rfl (lv_at hl 2 rfl) ?_
    refine x_iadd hM h dX12_back_80 (fun v_3 h => ?_)
    refine x_iald hM hG xmt_33 h dX12_back_81 (fun v_4 h => ?_)
    refine x_cVv (As := [.int x2, .int x1, .int v_4]) (rest := []) hM hG xml_X12_169 xwi_X12_lays xws_X12_lays xmt_0 (by decide) rfl h (fun S' v e => c_X12_lays hM.2.2.2.2.2.2.1 e _) ⟨Nat.le_of_ble_eq_true rfl, Nat.le_of_ble_eq_true rfl⟩ rfl hl.1 rfl (Nat.le_of_ble_eq_true rfl) dX12_back_82 (fun S_5 v_6 H locs h hG => ?_)
    refine x_iinc hM (fun v => [(2, .int v), (0, .ref (a 0)), (1, .int x1)]) h dX12_back_85 hl (k := 2) rfl (by decide) (by decide) (fun _ => rfl) (fun v_7 ls h hl => ?_)
    refine lv_goto (tgt := 64) hx hb dX12_back_88 (by decide) ?_
    exact k2 _ _ (Option.some.inj h).symm _ _ _ hG (lv_sub hl [1, 2, 0] rfl)
theorem wl_X12_back_64 {x1 : Int32} (hM : xM p c cX12_back m s args RX12 3 D cy xmb a z) (hr : meth.sig.returnType = (some .int)) (hlk : meth.locks = false) {S' : xSt} {v' : Int32} {q : ((xSt × Int32) ⊕ (xSt × Int32))} (k0 : ∀ t0 : xSt × Int32, q = (.inr t0) → t0 = (S', v')) (k1 : ∀ (S : xSt) (x1 : Int32), q = (.inl (S, x1)) → ∀ (H : Heap) (locs : List Loc) (ls : Array Slot), xG D cy xmb a S s H locs → lv_has ls 3 [(0, .ref (a 0)), (1, .int x1)] → W p l e ({ frames := 1, cells := 0, slots := 0, locals := 23 } : Room) s m args below meth c H locs 0 0 (MQ below (xQi D cy xmb a S' v' s.heap.size) args s 0 0 (xA xmb a s.heap.size)) (F0 m 56 ls [])) (n : Nat) : ∀ (S : xSt) (x2 : Int32) (H : Heap) (locs : List Loc) (ls : Array Slot), xlp (fun q : (xSt × Int32) => f_X12_back_64 x1 q.1 q.2) n (S, x2) = some q → xG D cy xmb a S s H locs → lv_has ls 3 [(0, .ref (a 0)), (1, .int x1), (2, .int x2)] → W p l e ({ frames := 1, cells := 0, slots := 0, locals := 23 } : Room) s m args below meth c H locs 0 0 (MQ below (xQi D cy xmb a S' v' s.heap.size) args s 0 0 (xA xmb a s.heap.size)) (F0 m 64 ls []) := by
  induction n with
  | zero => intro S x2 H locs ls h; exact (xlp_0 h).elim
  | succ n ih =>
    intro S x2 H locs ls h hG hl
    obtain ⟨q1, hq, hc, he⟩ := xlp_at h
    exact w_X12_back_64 hM hr hlk (q := q1) hq (fun t0 e => k0 t0 (he _ e).symm) (fun S x1 e => k1 S x1 (he _ e).symm) (fun S x2 e H locs ls hG hl => ih S x2 H locs ls (hc _ e) hG hl) hG hl
set_option maxHeartbeats 4000000 in
set_option maxRecDepth 100000 in
theorem w_X12_back_122 (hM : xM p c cX12_back m s args RX12 3 D cy xmb a z) (hr : meth.sig.returnType = (some .int)) (hlk : meth.locks = false) {S' : xSt} {v' : Int32} {S : xSt} {q : (xSt × Int32)} (h : f_X12_back_122 S = some q) (k0 : ∀ t0 : xSt × Int32, q = t0 → t0 = (S', v')) {H : Heap} {locs : List Loc} (hG : xG D cy xmb a S s H locs) {ls : Array Slot} (hl : lv_has ls 3 [(0, .ref (a 0))]) : W p l e ({ frames := 1, cells := 0, slots := 0, locals := 23 } : Room) s m args below meth c H locs 0 0 (MQ below (xQi D cy xmb a S' v' s.heap.size) args s 0 0 (xA xmb a s.heap.size)) (F0 m 122 ls []) := by
  have hx := hM.1
  have hb := hM.2.1
  refine lv_aload_n hx hb dX12_back_122 rfl (lv_at hl 0 rfl) ?_
  refine x_gr (r := 9) hM hG xfl_X12_36 xmt_0 (by decide) rfl dX12_back_123 ?_
  refine lv_iconst (v := (4 : Int32)) hx hb dX12_back_126 (by decide) ?_
  refine x_iald hM hG xmt_9 h dX12_back_127 (fun v_1 h => ?_)
  exact x_ri hM hG hr hlk rfl (k0 _ (Option.some.inj h).symm) dX12_back_128
set_option maxHeartbeats 4000000 in
set_option maxRecDepth 100000 in
theorem w_X12_back_99 {x1 : Int32} (hM : xM p c cX12_back m s args RX12 3 D cy xmb a z) (hr : meth.sig.returnType = (some .int)) (hlk : meth.locks = false) {S' : xSt} {v' : Int32} {S : xSt} {q : ((xSt × Int32) ⊕ (xSt × Int32))} (h : f_X12_back_99 S x1 = some q) (k0 : ∀ t0 : xSt × Int32, q = (.inr t0) → t0 = (S', v')) (k1 : ∀ (S : xSt) (x1 : Int32), q = (.inl (S, x1)) → ∀ (H : Heap) (locs : List Loc) (ls : Array Slot), xG D cy xmb a S s H locs → lv_has ls 3 [(0, .ref (a 0)), (1, .int x1)] → W p l e ({ frames := 1, cells := 0, slots := 0, locals := 23 } : Room) s m args below meth c H locs 0 0 (MQ below (xQi D cy xmb a S' v' s.heap.size) args s 0 0 (xA xmb a s.heap.size)) (F0 m 99 ls [])) {H : Heap} {locs : List Loc} (hG : xG D cy xmb a S s H locs) {ls : Array Slot} (hl : lv_has ls 3 [(0, .ref (a 0)), (1, .int x1)]) : W p l e ({ frames := 1, cells := 0, slots := 0, locals := 23 } : Room) s m args below meth c H locs 0 0 (MQ below (xQi D cy xmb a S' v' s.heap.size) args s 0 0 (xA xmb a s.heap.size)) (F0 m 99 ls []) := by
  have hx := hM.1
  have hb := hM.2.1
  refine lv_iload_n hx hb dX12_back_99 rfl (lv_at hl 1 rfl) ?_
  refine lv_iconst (v := (5 : Int32)) hx hb dX12_back_100 (by decide) ?_
  refine x_icmp_ge (tgt := 122) hM h dX12_back_101 (by decide) (fun c_1 h => ?_) (fun c_1 h => ?_)
  · obtain ⟨q1, h, e1⟩ := xmr_at h
    exact w_X12_back_122 hM hr hlk h (fun t0 e => k0 t0 (by rw [e1, e])) hG (lv_sub hl [0] rfl)
  · refine lv_aload_n hx hb dX12_back_104 rfl (lv_at hl 0 rfl) ?_
    refine x_gr (r := 9) hM hG xfl_X12_36 xmt_0 (by decide) rfl dX12_back_105 ?_
    refine lv_iload_n hx hb dX12_back_108 rfl (lv_at hl 1 rfl) ?_
    refine lv_aload_n hx hb dX12_back_109 rfl (lv_at hl 0 rfl) ?_
    refine x_gr (r := 34) hM hG xfl_X12_117 xmt_0 (by decide) rfl dX12_back_110 ?_
    refine lv_iload_n hx hb dX12_back_113 rfl (lv_at hl 1 rfl) ?_
    refine x_iald hM hG xmt_34 h dX12_back_114 (fun v_2 h => ?_)
    refine x_iast hM hG xmt_9 h dX12_back_115 (fun S_3 H locs h hG => ?_)
    refine x_iinc hM (fun v => [(1, .int v), (0, .ref (a 0))]) h dX12_back_116 hl (k := 1) rfl (by decide) (by decide) (fun _ => rfl) (fun v_4 ls h hl => ?_)
    refine lv_goto (tgt := 99) hx hb dX12_back_119 (by decide) ?_
    exact k1 _ _ (Option.some.inj h).symm _ _ _ hG (lv_sub hl [1, 0] rfl)
theorem wl_X12_back_99 (hM : xM p c cX12_back m s args RX12 3 D cy xmb a z) (hr : meth.sig.returnType = (some .int)) (hlk : meth.locks = false) {S' : xSt} {v' : Int32} {q : (xSt × Int32)} (k0 : ∀ t0 : xSt × Int32, q = t0 → t0 = (S', v')) (n : Nat) : ∀ (S : xSt) (x1 : Int32) (H : Heap) (locs : List Loc) (ls : Array Slot), xlp (fun q : (xSt × Int32) => f_X12_back_99 q.1 q.2) n (S, x1) = some q → xG D cy xmb a S s H locs → lv_has ls 3 [(0, .ref (a 0)), (1, .int x1)] → W p l e ({ frames := 1, cells := 0, slots := 0, locals := 23 } : Room) s m args below meth c H locs 0 0 (MQ below (xQi D cy xmb a S' v' s.heap.size) args s 0 0 (xA xmb a s.heap.size)) (F0 m 99 ls []) := by
  induction n with
  | zero => intro S x1 H locs ls h; exact (xlp_0 h).elim
  | succ n ih =>
    intro S x1 H locs ls h hG hl
    obtain ⟨q1, hq, hc, he⟩ := xlp_at h
    exact w_X12_back_99 hM hr hlk (q := q1) hq (fun t0 e => k0 t0 (he _ e).symm) (fun S x1 e H locs ls hG hl => ih S x1 H locs ls (hc _ e) hG hl) hG hl
set_option maxHeartbeats 4000000 in
set_option maxRecDepth 100000 in
theorem w_X12_back_97 (hM : xM p c cX12_back m s args RX12 3 D cy xmb a z) (hr : meth.sig.returnType = (some .int)) (hlk : meth.locks = false) {S' : xSt} {v' : Int32} {S : xSt} {q : (xSt × Int32)} (h : f_X12_back_97 S = some q) (k0 : ∀ t0 : xSt × Int32, q = t0 → t0 = (S', v')) {H : Heap} {locs : List Loc} (hG : xG D cy xmb a S s H locs) {ls : Array Slot} (hl : lv_has ls 3 [(0, .ref (a 0))]) : W p l e ({ frames := 1, cells := 0, slots := 0, locals := 23 } : Room) s m args below meth c H locs 0 0 (MQ below (xQi D cy xmb a S' v' s.heap.size) args s 0 0 (xA xmb a s.heap.size)) (F0 m 97 ls []) := by
  have hx := hM.1
  have hb := hM.2.1
  refine lv_iconst (v := (0 : Int32)) hx hb dX12_back_97 (by decide) ?_
  refine lv_istore_n (lv' := [(1, .int (0 : Int32)), (0, .ref (a 0))]) hx hb dX12_back_98 rfl hl (by decide) rfl (fun ls hl => ?_)
  exact wl_X12_back_99 hM hr hlk (fun t0 e => k0 t0 e) 5000 _ _ _ _ _ h hG (lv_sub hl [1, 0] rfl)
set_option maxHeartbeats 4000000 in
set_option maxRecDepth 100000 in
theorem w_X12_back_56 {x1 : Int32} (hM : xM p c cX12_back m s args RX12 3 D cy xmb a z) (hr : meth.sig.returnType = (some .int)) (hlk : meth.locks = false) {S' : xSt} {v' : Int32} {S : xSt} {q : ((xSt × Int32) ⊕ (xSt × Int32))} (h : f_X12_back_56 S x1 = some q) (k0 : ∀ t0 : xSt × Int32, q = (.inr t0) → t0 = (S', v')) (k1 : ∀ (S : xSt) (x1 : Int32), q = (.inl (S, x1)) → ∀ (H : Heap) (locs : List Loc) (ls : Array Slot), xG D cy xmb a S s H locs → lv_has ls 3 [(0, .ref (a 0)), (1, .int x1)] → W p l e ({ frames := 1, cells := 0, slots := 0, locals := 23 } : Room) s m args below meth c H locs 0 0 (MQ below (xQi D cy xmb a S' v' s.heap.size) args s 0 0 (xA xmb a s.heap.size)) (F0 m 56 ls [])) {H : Heap} {locs : List Loc} (hG : xG D cy xmb a S s H locs) {ls : Array Slot} (hl : lv_has ls 3 [(0, .ref (a 0)), (1, .int x1)]) : W p l e ({ frames := 1, cells := 0, slots := 0, locals := 23 } : Room) s m args below meth c H locs 0 0 (MQ below (xQi D cy xmb a S' v' s.heap.size) args s 0 0 (xA xmb a s.heap.size)) (F0 m 56 ls []) := by
  have hx := hM.1
  have hb := hM.2.1
  refine lv_iload_n hx hb dX12_back_56 rfl (lv_at hl 1 rfl) ?_
  refine lv_bipush (v := (30 : Int32)) hx hb dX12_back_57 (by decide) ?_
  refine x_icmp_ge (tgt := 97) hM h dX12_back_59 (by decide) (fun c_1 h => ?_) (fun c_1 h => ?_)
  · obtain ⟨q1, h, e1⟩ := xmr_at h
    exact w_X12_back_97 hM hr hlk h (fun t0 e => k0 t0 (by rw [e1, e])) hG (lv_sub hl [0] rfl)
  · refine lv_iconst (v := (0 : Int32)) hx hb dX12_back_62 (by decide) ?_
    refine lv_istore_n (lv' := [(2, .int (0 : Int32)), (0, .ref (a 0)), (1, .int x1)]) hx hb dX12_back_63 rfl hl (by decide) rfl (fun ls hl => ?_)
    exact wl_X12_back_64 hM hr hlk (fun t0 e => k0 t0 e) (fun S x1 e => k1 S x1 e) 5000 _ _ _ _ _ h hG (lv_sub hl [1, 2, 0] rfl)
theorem wl_X12_back_56 (hM : xM p c cX12_back m s args RX12 3 D cy xmb a z) (hr : meth.sig.returnType = (some .int)) (hlk : meth.locks = false) {S' : xSt} {v' : Int32} {q : (xSt × Int32)} (k0 : ∀ t0 : xSt × Int32, q = t0 → t0 = (S', v')) (n : Nat) : ∀ (S : xSt) (x1 : Int32) (H : Heap) (locs : List Loc) (ls : Array Slot), xlp (fun q : (xSt × Int32) => f_X12_back_56 q.1 q.2) n (S, x1) = some q → xG D cy xmb a S s H locs → lv_has ls 3 [(0, .ref (a 0)), (1, .int x1)] → W p l e ({ frames := 1, cells := 0, slots := 0, locals := 23 } : Room) s m args below meth c H locs 0 0 (MQ below (xQi D cy xmb a S' v' s.heap.size) args s 0 0 (xA xmb a s.heap.size)) (F0 m 56 ls []) := by
  induction n with
  | zero => intro S x1 H locs ls h; exact (xlp_0 h).elim
  | succ n ih =>
    intro S x1 H locs ls h hG hl
    obtain ⟨q1, hq, hc, he⟩ := xlp_at h
    exact w_X12_back_56 hM hr hlk (q := q1) hq (fun t0 e => k0 t0 (he _ e).symm) (fun S x1 e H locs ls hG hl => ih S x1 H locs ls (hc _ e) hG hl) hG hl
set_option maxHeartbeats 4000000 in
set_option maxRecDepth 100000 in
theorem w_X12_back_54 (hM : xM p c cX12_back m s args RX12 3 D cy xmb a z) (hr : meth.sig.returnType = (some .int)) (hlk : meth.locks = false) {S' : xSt} {v' : Int32} {S : xSt} {q : (xSt × Int32)} (h : f_X12_back_54 S = some q) (k0 : ∀ t0 : xSt × Int32, q = t0 → t0 = (S', v')) {H : Heap} {locs : List Loc} (hG : xG D cy xmb a S s H locs) {ls : Array Slot} (hl : lv_has ls 3 [(0, .ref (a 0))]) : W p l e ({ frames := 1, cells := 0, slots := 0, locals := 23 } : Room) s m args below meth c H locs 0 0 (MQ below (xQi D cy xmb a S' v' s.heap.size) args s 0 0 (xA xmb a s.heap.size)) (F0 m 54 ls []) := by
  have hx := hM.1
  have hb := hM.2.1
  refine lv_iconst (v := (0 : Int32)) hx hb dX12_back_54 (by decide) ?_
  refine lv_istore_n (lv' := [(1, .int (0 : Int32)), (0, .ref (a 0))]) hx hb dX12_back_55 rfl hl (by decide) rfl (fun ls hl => ?_)
  exact wl_X12_back_56 hM hr hlk (fun t0 e => k0 t0 e) 5000 _ _ _ _ _ h hG (lv_sub hl [1, 0] rfl)
set_option maxHeartbeats 4000000 in
set_option maxRecDepth 100000 in
theorem w_X12_back_30 {x1 : Int32} (hM : xM p c cX12_back m s args RX12 3 D cy xmb a z) (hr : meth.sig.returnType = (some .int)) (hlk : meth.locks = false) {S' : xSt} {v' : Int32} {S : xSt} {q : ((xSt × Int32) ⊕ (xSt × Int32))} (h : f_X12_back_30 S x1 = some q) (k0 : ∀ t0 : xSt × Int32, q = (.inr t0) → t0 = (S', v')) (k1 : ∀ (S : xSt) (x1 : Int32), q = (.inl (S, x1)) → ∀ (H : Heap) (locs : List Loc) (ls : Array Slot), xG D cy xmb a S s H locs → lv_has ls 3 [(0, .ref (a 0)), (1, .int x1)] → W p l e ({ frames := 1, cells := 0, slots := 0, locals := 23 } : Room) s m args below meth c H locs 0 0 (MQ below (xQi D cy xmb a S' v' s.heap.size) args s 0 0 (xA xmb a s.heap.size)) (F0 m 30 ls [])) {H : Heap} {locs : List Loc} (hG : xG D cy xmb a S s H locs) {ls : Array Slot} (hl : lv_has ls 3 [(0, .ref (a 0)), (1, .int x1)]) : W p l e ({ frames := 1, cells := 0, slots := 0, locals := 23 } : Room) s m args below meth c H locs 0 0 (MQ below (xQi D cy xmb a S' v' s.heap.size) args s 0 0 (xA xmb a s.heap.size)) (F0 m 30 ls []) := by
  have hx := hM.1
  have hb := hM.2.1
  refine lv_iload_n hx hb dX12_back_30 rfl (lv_at hl 1 rfl) ?_
  refine lv_bipush (v := (6 : Int32)) hx hb dX12_back_31 (by decide) ?_
  refine x_icmp_ge (tgt := 54) hM h dX12_back_33 (by decide) (fun c_1 h => ?_) (fun c_1 h => ?_)
  · obtain ⟨q1, h, e1⟩ := xmr_at h
    exact w_X12_back_54 hM hr hlk h (fun t0 e => k0 t0 (by rw [e1, e])) hG (lv_sub hl [0] rfl)
  · refine lv_aload_n hx hb dX12_back_36 rfl (lv_at hl 0 rfl) ?_
    refine x_gr (r := 1) hM hG xfl_X12_9 xmt_0 (by decide) rfl dX12_back_37 ?_
    refine lv_iload_n hx hb dX12_back_40 rfl (lv_at hl 1 rfl) ?_
    refine lv_aload_n hx hb dX12_back_41 rfl (lv_at hl 0 rfl) ?_
    refine x_gr (r := 32) hM hG xfl_X12_111 xmt_0 (by decide) rfl dX12_back_42 ?_
    refine lv_iload_n hx hb dX12_back_45 rfl (lv_at hl 1 rfl) ?_
    refine x_iald hM hG xmt_32 h dX12_back_46 (fun v_2 h => ?_)
    refine x_iast hM hG xmt_1 h dX12_back_47 (fun S_3 H locs h hG => ?_)
    refine x_iinc hM (fun v => [(1, .int v), (0, .ref (a 0))]) h dX12_back_48 hl (k := 1) rfl (by decide) (by decide) (fun _ => rfl) (fun v_4 ls h hl => ?_)
    refine lv_goto (tgt := 30) hx hb dX12_back_51 (by decide) ?_
    exact k1 _ _ (Option.some.inj h).symm _ _ _ hG (lv_sub hl [1, 0] rfl)
theorem wl_X12_back_30 (hM : xM p c cX12_back m s args RX12 3 D cy xmb a z) (hr : meth.sig.returnType = (some .int)) (hlk : meth.locks = false) {S' : xSt} {v' : Int32} {q : (xSt × Int32)} (k0 : ∀ t0 : xSt × Int32, q = t0 → t0 = (S', v')) (n : Nat) : ∀ (S : xSt) (x1 : Int32) (H : Heap) (locs : List Loc) (ls : Array Slot), xlp (fun q : (xSt × Int32) => f_X12_back_30 q.1 q.2) n (S, x1) = some q → xG D cy xmb a S s H locs → lv_has ls 3 [(0, .ref (a 0)), (1, .int x1)] → W p l e ({ frames := 1, cells := 0, slots := 0, locals := 23 } : Room) s m args below meth c H locs 0 0 (MQ below (xQi D cy xmb a S' v' s.heap.size) args s 0 0 (xA xmb a s.heap.size)) (F0 m 30 ls []) := by
  induction n with
  | zero => intro S x1 H locs ls h; exact (xlp_0 h).elim
  | succ n ih =>
    intro S x1 H locs ls h hG hl
    obtain ⟨q1, hq, hc, he⟩ := xlp_at h
    exact w_X12_back_30 hM hr hlk (q := q1) hq (fun t0 e => k0 t0 (he _ e).symm) (fun S x1 e H locs ls hG hl => ih S x1 H locs ls (hc _ e) hG hl) hG hl
set_option maxHeartbeats 4000000 in
set_option maxRecDepth 100000 in
theorem w_X12_back_0 (hM : xM p c cX12_back m s args RX12 3 D cy xmb a z) (hr : meth.sig.returnType = (some .int)) (hlk : meth.locks = false) {S' : xSt} {v' : Int32} {S : xSt} {q : (xSt × Int32)} (h : f_X12_back_0 S = some q) (k0 : ∀ t0 : xSt × Int32, q = t0 → t0 = (S', v')) {H : Heap} {locs : List Loc} (hG : xG D cy xmb a S s H locs) {ls : Array Slot} (hl : lv_has ls 3 [(0, .ref (a 0))]) : W p l e ({ frames := 1, cells := 0, slots := 0, locals := 23 } : Room) s m args below meth c H locs 0 0 (MQ below (xQi D cy xmb a S' v' s.heap.size) args s 0 0 (xA xmb a s.heap.size)) (F0 m 0 ls []) := by
  have hx := hM.1
  have hb := hM.2.1
  refine lv_aload_n hx hb dX12_back_0 rfl (lv_at hl 0 rfl) ?_
  refine x_gi hM hG xfl_X12_393 xmt_0 (by decide) rfl h dX12_back_1 (fun v_1 h => ?_)
  refine x_if_ne (tgt := 10) hM h dX12_back_4 (by decide) (fun c_2 h => ?_) (fun c_2 h => ?_)
  · refine lv_aload_n hx hb dX12_back_10 rfl (lv_at hl 0 rfl) ?_
    refine x_gr (r := 8) hM hG xfl_X12_33 xmt_0 (by decide) rfl dX12_back_11 ?_
    refine lv_iconst (v := (1 : Int32)) hx hb dX12_back_14 (by decide) ?_
    refine lv_aload_n hx hb dX12_back_15 rfl (lv_at hl 0 rfl) ?_
    refine x_gi hM hG xfl_X12_396 xmt_0 (by decide) rfl h dX12_back_16 (fun v_3 h => ?_)
    refine x_iast hM hG xmt_8 h dX12_back_19 (fun S_4 H locs h hG => ?_)
    refine lv_aload_n hx hb dX12_back_20 rfl (lv_at hl 0 rfl) ?_
    refine lv_aload_n hx hb dX12_back_21 rfl (lv_at hl 0 rfl) ?_
    refine x_gi hM hG xfl_X12_399 xmt_0 (by decide) rfl h dX12_back_22 (fun v_5 h => ?_)
    refine x_pi hM hG xfl_X12_107 xfp_X12_46 xmt_0 (by decide) rfl rfl rfl h dX12_back_25 (fun S_6 H locs h hG => ?_)
    refine lv_iconst (v := (0 : Int32)) hx hb dX12_back_28 (by decide) ?_
    refine lv_istore_n (lv' := [(1, .int (0 : Int32)), (0, .ref (a 0))]) hx hb dX12_back_29 rfl hl (by decide) rfl (fun ls hl => ?_)
    exact wl_X12_back_30 hM hr hlk (fun t0 e => k0 t0 e) 5000 _ _ _ _ _ h hG (lv_sub hl [1, 0] rfl)
  · refine lv_bipush (v := (-5 : Int32)) hx hb dX12_back_7 (by decide) ?_
    exact x_ri hM hG hr hlk rfl (k0 _ (Option.some.inj h).symm) dX12_back_9
set_option maxHeartbeats 4000000 in
set_option maxRecDepth 100000 in
theorem c_X12_back {l : Launch} {D : va_G} {cy : Nat → ClassId} {a z : Nat → Nat} (hI : xI xmb a) {S : xSt} {S' : xSt} {v' : Int32} (hf : f_X12_back S = some (S', v')) (sz : Nat) : Met l yX12_back (Cond.code yX12_back cX12_back 3 (some .int) :: xTB) ({ frames := 1, cells := 0, slots := 0, locals := 23 } : Room) (va_Pc [.ref (a 0)] (xPre D cy xmb a z S sz)) (xQi D cy xmb a S' v' sz) 0 0 (xA xmb a sz) := by
  refine Met.ofW (cc := cX12_back) (maxL := 3) (ret := (some .int)) (by decide) rfl ?_
  intro p e s m args below meth c s₁ B hml hv
  obtain ⟨rfl, hsz, hP, hK, hE⟩ := hv
  subst hsz
  have hl := lv_entry ([.ref (a 0)]) (n := 3) (Nat.le_of_ble_eq_true rfl)
  rw [lg_entry_eq]
  generalize (lg_sl ([.ref (a 0)]) ++ List.replicate (3 - (lg_sl ([.ref (a 0)])).length) Slot.unset).toArray = ls at hl ⊢
  have hl : lv_has ls 3 [(0, .ref (a 0))] := hl
  exact w_X12_back_0 ⟨B.exec, B.bytes, hml, findClass_of_methodNamed B.named, fun w hw => atoms_spec (ws := Cond.code yX12_back cX12_back 3 (some .int) :: xTB) B.pre w (List.mem_cons_of_mem _ hw), hK, hI, hE⟩ B.returns B.notSynchronized hf (fun t0 e => e.symm) ⟨hP, va_S.rf⟩ (lv_sub hl [0] rfl)
set_option maxHeartbeats 4000000 in
set_option maxRecDepth 100000 in
theorem w_X12_isBody_0 {x1 : Int32} (hM : xM p c cX12_isBody m s args RX12 2 D cy xmb a z) (hr : meth.sig.returnType = (some .boolean)) (hlk : meth.locks = false) {S' : xSt} {v' : Int32} {S : xSt} {q : (xSt × Int32)} (h : f_X12_isBody_0 x1 S = some q) (k0 : ∀ t0 : xSt × Int32, q = t0 → t0 = (S', v')) {H : Heap} {locs : List Loc} (hG : xG D cy xmb a S s H locs) {ls : Array Slot} (hl : lv_has ls 2 [(0, .ref (a 0)), (1, .int x1)]) : W p l e ({ frames := 1, cells := 0, slots := 0, locals := 22 } : Room) s m args below meth c H locs 0 0 (MQ below (xQi D cy xmb a S' v' s.heap.size) args s 0 0 (xA xmb a s.heap.size)) (F0 m 0 ls []) := by
  have hx := hM.1
  have hb := hM.2.1
  refine lv_iload_n hx hb dX12_isBody_0 rfl (lv_at hl 1 rfl) ?_
  refine lv_iconst (v := (0 : Int32)) hx hb dX12_isBody_1 (by decide) ?_
  refine lv_aload_n hx hb dX12_isBody_2 rfl (lv_at hl 0 rfl) ?_
  refine x_gi hM hG xfl_X12_402 xmt_0 (by decide) rfl h dX12_isBody_3 (fun v_1 h => ?_)
  refine lv_iconst (v := (1 : Int32)) hx hb dX12_isBody_6 (by decide) ?_
  refine x_isub hM h dX12_isBody_7 (fun v_2 h => ?_)
  refine x_cSi (As := [.int x1, .int (0 : Int32), .int v_2]) (rest := []) hM hG xml_X12_142 xwt_X12_in h (fun S' v e => c_X12_in hM.2.2.2.2.2.2.1 e _) ⟨Nat.le_of_ble_eq_true rfl, Nat.le_of_ble_eq_true rfl⟩ rfl hl.1 rfl (Nat.le_of_ble_eq_true rfl) dX12_isBody_8 (fun S_3 v_4 H locs h hG => ?_)
  obtain ⟨hz, h⟩ := xgd_at h
  exact x_ri hM hG hr hlk (x_nz hz) (k0 _ (Option.some.inj h).symm) dX12_isBody_11
set_option maxHeartbeats 4000000 in
set_option maxRecDepth 100000 in
theorem c_X12_isBody {l : Launch} {D : va_G} {cy : Nat → ClassId} {a z : Nat → Nat} (hI : xI xmb a) {S : xSt} {x1 : Int32} {S' : xSt} {v' : Int32} (hf : f_X12_isBody S x1 = some (S', v')) (sz : Nat) : Met l yX12_isBody (Cond.code yX12_isBody cX12_isBody 2 (some .boolean) :: xTB) ({ frames := 1, cells := 0, slots := 0, locals := 22 } : Room) (va_Pc [.ref (a 0), .int x1] (xPre D cy xmb a z S sz)) (xQi D cy xmb a S' v' sz) 0 0 (xA xmb a sz) := by
  refine Met.ofW (cc := cX12_isBody) (maxL := 2) (ret := (some .boolean)) (by decide) rfl ?_
  intro p e s m args below meth c s₁ B hml hv
  obtain ⟨rfl, hsz, hP, hK, hE⟩ := hv
  subst hsz
  have hl := lv_entry ([.ref (a 0), .int x1]) (n := 2) (Nat.le_of_ble_eq_true rfl)
  rw [lg_entry_eq]
  generalize (lg_sl ([.ref (a 0), .int x1]) ++ List.replicate (2 - (lg_sl ([.ref (a 0), .int x1])).length) Slot.unset).toArray = ls at hl ⊢
  have hl : lv_has ls 2 [(0, .ref (a 0)), (1, .int x1)] := hl
  exact w_X12_isBody_0 ⟨B.exec, B.bytes, hml, findClass_of_methodNamed B.named, fun w hw => atoms_spec (ws := Cond.code yX12_isBody cX12_isBody 2 (some .boolean) :: xTB) B.pre w (List.mem_cons_of_mem _ hw), hK, hI, hE⟩ B.returns B.notSynchronized hf (fun t0 e => e.symm) ⟨hP, va_S.rf⟩ (lv_sub hl [0, 1] rfl)
set_option maxHeartbeats 4000000 in
set_option maxRecDepth 100000 in
theorem w_X12_ran_19 (hM : xM p c cX12_ran m s args RX12 2 D cy xmb a z) (hr : meth.sig.returnType = none) (hlk : meth.locks = false) {S' : xSt} {v' : Unit} {S : xSt} {q : (xSt × Unit)} (h : f_X12_ran_19 S = some q) (k0 : ∀ t0 : xSt × Unit, q = t0 → t0 = (S', v')) {H : Heap} {locs : List Loc} (hG : xG D cy xmb a S s H locs) {ls : Array Slot} (hl : lv_has ls 2 [(0, .ref (a 0))]) : W p l e ({ frames := 0, cells := 0, slots := 0, locals := 0 } : Room) s m args below meth c H locs 0 0 (MQ below (xQv D cy xmb a S' v' s.heap.size) args s 0 0 (xA xmb a s.heap.size)) (F0 m 19 ls []) := by
  have hx := hM.1
  have hb := hM.2.1
  refine lv_aload_n hx hb dX12_ran_19 rfl (lv_at hl 0 rfl) ?_
  refine lv_dup hx hb dX12_ran_20 rfl ?_
  refine x_gi hM hG xfl_X12_405 xmt_0 (by decide) rfl h dX12_ran_21 (fun v_1 h => ?_)
  refine lv_iconst (v := (1 : Int32)) hx hb dX12_ran_24 (by decide) ?_
  refine x_iadd hM h dX12_ran_25 (fun v_2 h => ?_)
  refine x_pi hM hG xfl_X12_405 xfp_X12_55 xmt_0 (by decide) rfl rfl rfl h dX12_ran_26 (fun S_3 H locs h hG => ?_)
  exact x_rv hM hG hr hlk (k0 _ (Option.some.inj h).symm) dX12_ran_29
set_option maxHeartbeats 4000000 in
set_option maxRecDepth 100000 in
theorem w_X12_ran_0 {x1 : Int32} (hM : xM p c cX12_ran m s args RX12 2 D cy xmb a z) (hr : meth.sig.returnType = none) (hlk : meth.locks = false) {S' : xSt} {v' : Unit} {S : xSt} {q : (xSt × Unit)} (h : f_X12_ran_0 x1 S = some q) (k0 : ∀ t0 : xSt × Unit, q = t0 → t0 = (S', v')) {H : Heap} {locs : List Loc} (hG : xG D cy xmb a S s H locs) {ls : Array Slot} (hl : lv_has ls 2 [(0, .ref (a 0)), (1, .int x1)]) : W p l e ({ frames := 0, cells := 0, slots := 0, locals := 0 } : Room) s m args below meth c H locs 0 0 (MQ below (xQv D cy xmb a S' v' s.heap.size) args s 0 0 (xA xmb a s.heap.size)) (F0 m 0 ls []) := by
  have hx := hM.1
  have hb := hM.2.1
  refine lv_aload_n hx hb dX12_ran_0 rfl (lv_at hl 0 rfl) ?_
  refine x_gi hM hG xfl_X12_405 xmt_0 (by decide) rfl h dX12_ran_1 (fun v_1 h => ?_)
  refine lv_bipush (v := (24 : Int32)) hx hb dX12_ran_4 (by decide) ?_
  refine x_icmp_ge (tgt := 19) hM h dX12_ran_6 (by decide) (fun c_2 h => ?_) (fun c_2 h => ?_)
  · exact w_X12_ran_19 hM hr hlk h (fun t0 e => k0 t0 e) hG (lv_sub hl [0] rfl)
  · refine lv_aload_n hx hb dX12_ran_9 rfl (lv_at hl 0 rfl) ?_
    refine x_gr (r := 36) hM hG xfl_X12_123 xmt_0 (by decide) rfl dX12_ran_10 ?_
    refine lv_aload_n hx hb dX12_ran_13 rfl (lv_at hl 0 rfl) ?_
    refine x_gi hM hG xfl_X12_405 xmt_0 (by decide) rfl h dX12_ran_14 (fun v_3 h => ?_)
    refine lv_iload_n hx hb dX12_ran_17 rfl (lv_at hl 1 rfl) ?_
    refine x_iast hM hG xmt_36 h dX12_ran_18 (fun S_4 H locs h hG => ?_)
    exact w_X12_ran_19 hM hr hlk h (fun t0 e => k0 t0 e) hG (lv_sub hl [0] rfl)
set_option maxHeartbeats 4000000 in
set_option maxRecDepth 100000 in
theorem c_X12_ran {l : Launch} {D : va_G} {cy : Nat → ClassId} {a z : Nat → Nat} (hI : xI xmb a) {S : xSt} {x1 : Int32} {S' : xSt} {v' : Unit} (hf : f_X12_ran S x1 = some (S', v')) (sz : Nat) : Met l yX12_ran (Cond.code yX12_ran cX12_ran 2 none :: xTB) ({ frames := 0, cells := 0, slots := 0, locals := 0 } : Room) (va_Pc [.ref (a 0), .int x1] (xPre D cy xmb a z S sz)) (xQv D cy xmb a S' v' sz) 0 0 (xA xmb a sz) := by
  refine Met.ofW (cc := cX12_ran) (maxL := 2) (ret := none) (by decide) rfl ?_
  intro p e s m args below meth c s₁ B hml hv
  obtain ⟨rfl, hsz, hP, hK, hE⟩ := hv
  subst hsz
  have hl := lv_entry ([.ref (a 0), .int x1]) (n := 2) (Nat.le_of_ble_eq_true rfl)
  rw [lg_entry_eq]
  generalize (lg_sl ([.ref (a 0), .int x1]) ++ List.replicate (2 - (lg_sl ([.ref (a 0), .int x1])).length) Slot.unset).toArray = ls at hl ⊢
  have hl : lv_has ls 2 [(0, .ref (a 0)), (1, .int x1)] := hl
  exact w_X12_ran_0 ⟨B.exec, B.bytes, hml, findClass_of_methodNamed B.named, fun w hw => atoms_spec (ws := Cond.code yX12_ran cX12_ran 2 none :: xTB) B.pre w (List.mem_cons_of_mem _ hw), hK, hI, hE⟩ B.returns B.notSynchronized hf (fun t0 e => e.symm) ⟨hP, va_S.rf⟩ (lv_sub hl [0, 1] rfl)
set_option maxHeartbeats 4000000 in
set_option maxRecDepth 100000 in
theorem w_X12_trace_27 (hM : xM p c cX12_trace m s args RX12 2 D cy xmb a z) (hr : meth.sig.returnType = (some .int)) (hlk : meth.locks = false) {S' : xSt} {v' : Int32} {S : xSt} {q : (xSt × Int32)} (h : f_X12_trace_27 S = some q) (k0 : ∀ t0 : xSt × Int32, q = t0 → t0 = (S', v')) {H : Heap} {locs : List Loc} (hG : xG D cy xmb a S s H locs) {ls : Array Slot} (hl : lv_has ls 2 []) : W p l e ({ frames := 0, cells := 0, slots := 0, locals := 0 } : Room) s m args below meth c H locs 0 0 (MQ below (xQi D cy xmb a S' v' s.heap.size) args s 0 0 (xA xmb a s.heap.size)) (F0 m 27 ls []) := by
  have hx := hM.1
  have hb := hM.2.1
  refine lv_iconst (v := (-1 : Int32)) hx hb dX12_trace_27 (by decide) ?_
  exact x_ri hM hG hr hlk rfl (k0 _ (Option.some.inj h).symm) dX12_trace_28
set_option maxHeartbeats 4000000 in
set_option maxRecDepth 100000 in
theorem w_X12_trace_0 {x1 : Int32} (hM : xM p c cX12_trace m s args RX12 2 D cy xmb a z) (hr : meth.sig.returnType = (some .int)) (hlk : meth.locks = false) {S' : xSt} {v' : Int32} {S : xSt} {q : (xSt × Int32)} (h : f_X12_trace_0 x1 S = some q) (k0 : ∀ t0 : xSt × Int32, q = t0 → t0 = (S', v')) {H : Heap} {locs : List Loc} (hG : xG D cy xmb a S s H locs) {ls : Array Slot} (hl : lv_has ls 2 [(0, .ref (a 0)), (1, .int x1)]) : W p l e ({ frames := 0, cells := 0, slots := 0, locals := 0 } : Room) s m args below meth c H locs 0 0 (MQ below (xQi D cy xmb a S' v' s.heap.size) args s 0 0 (xA xmb a s.heap.size)) (F0 m 0 ls []) := by
  have hx := hM.1
  have hb := hM.2.1
  refine lv_iload_n hx hb dX12_trace_0 rfl (lv_at hl 1 rfl) ?_
  refine x_if_lt (tgt := 27) hM h dX12_trace_1 (by decide) (fun c_1 h => ?_) (fun c_1 h => ?_)
  · exact w_X12_trace_27 hM hr hlk h (fun t0 e => k0 t0 e) hG (lv_sub hl [] rfl)
  · refine lv_iload_n hx hb dX12_trace_4 rfl (lv_at hl 1 rfl) ?_
    refine lv_aload_n hx hb dX12_trace_5 rfl (lv_at hl 0 rfl) ?_
    refine x_gi hM hG xfl_X12_405 xmt_0 (by decide) rfl h dX12_trace_6 (fun v_2 h => ?_)
    refine x_icmp_ge (tgt := 27) hM h dX12_trace_9 (by decide) (fun c_3 h => ?_) (fun c_3 h => ?_)
    · exact w_X12_trace_27 hM hr hlk h (fun t0 e => k0 t0 e) hG (lv_sub hl [] rfl)
    · refine lv_iload_n hx hb dX12_trace_12 rfl (lv_at hl 1 rfl) ?_
      refine lv_bipush (v := (24 : Int32)) hx hb dX12_trace_13 (by decide) ?_
      refine x_icmp_ge (tgt := 27) hM h dX12_trace_15 (by decide) (fun c_4 h => ?_) (fun c_4 h => ?_)
      · exact w_X12_trace_27 hM hr hlk h (fun t0 e => k0 t0 e) hG (lv_sub hl [] rfl)
      · refine lv_aload_n hx hb dX12_trace_18 rfl (lv_at hl 0 rfl) ?_
        refine x_gr (r := 36) hM hG xfl_X12_123 xmt_0 (by decide) rfl dX12_trace_19 ?_
        refine lv_iload_n hx hb dX12_trace_22 rfl (lv_at hl 1 rfl) ?_
        refine x_iald hM hG xmt_36 h dX12_trace_23 (fun v_5 h => ?_)
        refine lv_goto (tgt := 28) hx hb dX12_trace_24 (by decide) ?_
        exact x_ri hM hG hr hlk rfl (k0 _ (Option.some.inj h).symm) dX12_trace_28
set_option maxHeartbeats 4000000 in
set_option maxRecDepth 100000 in
theorem c_X12_trace {l : Launch} {D : va_G} {cy : Nat → ClassId} {a z : Nat → Nat} (hI : xI xmb a) {S : xSt} {x1 : Int32} {S' : xSt} {v' : Int32} (hf : f_X12_trace S x1 = some (S', v')) (sz : Nat) : Met l yX12_trace (Cond.code yX12_trace cX12_trace 2 (some .int) :: xTB) ({ frames := 0, cells := 0, slots := 0, locals := 0 } : Room) (va_Pc [.ref (a 0), .int x1] (xPre D cy xmb a z S sz)) (xQi D cy xmb a S' v' sz) 0 0 (xA xmb a sz) := by
  refine Met.ofW (cc := cX12_trace) (maxL := 2) (ret := (some .int)) (by decide) rfl ?_
  intro p e s m args below meth c s₁ B hml hv
  obtain ⟨rfl, hsz, hP, hK, hE⟩ := hv
  subst hsz
  have hl := lv_entry ([.ref (a 0), .int x1]) (n := 2) (Nat.le_of_ble_eq_true rfl)
  rw [lg_entry_eq]
  generalize (lg_sl ([.ref (a 0), .int x1]) ++ List.replicate (2 - (lg_sl ([.ref (a 0), .int x1])).length) Slot.unset).toArray = ls at hl ⊢
  have hl : lv_has ls 2 [(0, .ref (a 0)), (1, .int x1)] := hl
  exact w_X12_trace_0 ⟨B.exec, B.bytes, hml, findClass_of_methodNamed B.named, fun w hw => atoms_spec (ws := Cond.code yX12_trace cX12_trace 2 (some .int) :: xTB) B.pre w (List.mem_cons_of_mem _ hw), hK, hI, hE⟩ B.returns B.notSynchronized hf (fun t0 e => e.symm) ⟨hP, va_S.rf⟩ (lv_sub hl [0, 1] rfl)
set_option maxHeartbeats 4000000 in
set_option maxRecDepth 100000 in
theorem w_X12_body_0 {x1 : Int32} (hM : xM p c cX12_body m s args RX12 2 D cy xmb a z) (hr : meth.sig.returnType = (some .int)) (hlk : meth.locks = false) {S' : xSt} {v' : Int32} {S : xSt} {q : (xSt × Int32)} (h : f_X12_body_0 x1 S = some q) (k0 : ∀ t0 : xSt × Int32, q = t0 → t0 = (S', v')) {H : Heap} {locs : List Loc} (hG : xG D cy xmb a S s H locs) {ls : Array Slot} (hl : lv_has ls 2 [(0, .ref (a 0)), (1, .int x1)]) : W p l e ({ frames := 1, cells := 0, slots := 0, locals := 22 } : Room) s m args below meth c H locs 0 0 (MQ below (xQi D cy xmb a S' v' s.heap.size) args s 0 0 (xA xmb a s.heap.size)) (F0 m 0 ls []) := by
  have hx := hM.1
  have hb := hM.2.1
  refine lv_iload_n hx hb dX12_body_0 rfl (lv_at hl 1 rfl) ?_
  refine lv_iconst (v := (0 : Int32)) hx hb dX12_body_1 (by decide) ?_
  refine lv_bipush (v := (7 : Int32)) hx hb dX12_body_2 (by decide) ?_
  refine x_cSi (As := [.int x1, .int (0 : Int32), .int (7 : Int32)]) (rest := []) hM hG xml_X12_142 xwt_X12_in h (fun S' v e => c_X12_in hM.2.2.2.2.2.2.1 e _) ⟨Nat.le_of_ble_eq_true rfl, Nat.le_of_ble_eq_true rfl⟩ rfl hl.1 rfl (Nat.le_of_ble_eq_true rfl) dX12_body_4 (fun S_1 v_2 H locs h hG => ?_)
  refine x_if_ne (tgt := 12) hM h dX12_body_7 (by decide) (fun c_3 h => ?_) (fun c_3 h => ?_)
  · refine lv_aload_n hx hb dX12_body_12 rfl (lv_at hl 0 rfl) ?_
    refine x_gi hM hG xfl_X12_402 xmt_0 (by decide) rfl h dX12_body_13 (fun v_4 h => ?_)
    refine lv_bipush (v := (50 : Int32)) hx hb dX12_body_16 (by decide) ?_
    refine x_icmp_ne (tgt := 24) hM h dX12_body_18 (by decide) (fun c_5 h => ?_) (fun c_5 h => ?_)
    · refine lv_aload_n hx hb dX12_body_24 rfl (lv_at hl 0 rfl) ?_
      refine x_gr (r := 35) hM hG xfl_X12_120 xmt_0 (by decide) rfl dX12_body_25 ?_
      refine lv_aload_n hx hb dX12_body_28 rfl (lv_at hl 0 rfl) ?_
      refine x_gi hM hG xfl_X12_402 xmt_0 (by decide) rfl h dX12_body_29 (fun v_6 h => ?_)
      refine lv_iload_n hx hb dX12_body_32 rfl (lv_at hl 1 rfl) ?_
      refine x_iast hM hG xmt_35 h dX12_body_33 (fun S_7 H locs h hG => ?_)
      refine lv_aload_n hx hb dX12_body_34 rfl (lv_at hl 0 rfl) ?_
      refine lv_dup hx hb dX12_body_35 rfl ?_
      refine x_gi hM hG xfl_X12_402 xmt_0 (by decide) rfl h dX12_body_36 (fun v_8 h => ?_)
      refine lv_iconst (v := (1 : Int32)) hx hb dX12_body_39 (by decide) ?_
      refine x_iadd hM h dX12_body_40 (fun v_9 h => ?_)
      refine x_pi hM hG xfl_X12_402 xfp_X12_53 xmt_0 (by decide) rfl rfl rfl h dX12_body_41 (fun S_10 H locs h hG => ?_)
      refine lv_aload_n hx hb dX12_body_44 rfl (lv_at hl 0 rfl) ?_
      refine x_gi hM hG xfl_X12_402 xmt_0 (by decide) rfl h dX12_body_45 (fun v_11 h => ?_)
      refine lv_iconst (v := (1 : Int32)) hx hb dX12_body_48 (by decide) ?_
      refine x_isub hM h dX12_body_49 (fun v_12 h => ?_)
      exact x_ri hM hG hr hlk rfl (k0 _ (Option.some.inj h).symm) dX12_body_50
    · refine lv_bipush (v := (-3 : Int32)) hx hb dX12_body_21 (by decide) ?_
      exact x_ri hM hG hr hlk rfl (k0 _ (Option.some.inj h).symm) dX12_body_23
  · refine lv_iconst (v := (-1 : Int32)) hx hb dX12_body_10 (by decide) ?_
    exact x_ri hM hG hr hlk rfl (k0 _ (Option.some.inj h).symm) dX12_body_11
set_option maxHeartbeats 4000000 in
set_option maxRecDepth 100000 in
theorem c_X12_body {l : Launch} {D : va_G} {cy : Nat → ClassId} {a z : Nat → Nat} (hI : xI xmb a) {S : xSt} {x1 : Int32} {S' : xSt} {v' : Int32} (hf : f_X12_body S x1 = some (S', v')) (sz : Nat) : Met l yX12_body (Cond.code yX12_body cX12_body 2 (some .int) :: xTB) ({ frames := 1, cells := 0, slots := 0, locals := 22 } : Room) (va_Pc [.ref (a 0), .int x1] (xPre D cy xmb a z S sz)) (xQi D cy xmb a S' v' sz) 0 0 (xA xmb a sz) := by
  refine Met.ofW (cc := cX12_body) (maxL := 2) (ret := (some .int)) (by decide) rfl ?_
  intro p e s m args below meth c s₁ B hml hv
  obtain ⟨rfl, hsz, hP, hK, hE⟩ := hv
  subst hsz
  have hl := lv_entry ([.ref (a 0), .int x1]) (n := 2) (Nat.le_of_ble_eq_true rfl)
  rw [lg_entry_eq]
  generalize (lg_sl ([.ref (a 0), .int x1]) ++ List.replicate (2 - (lg_sl ([.ref (a 0), .int x1])).length) Slot.unset).toArray = ls at hl ⊢
  have hl : lv_has ls 2 [(0, .ref (a 0)), (1, .int x1)] := hl
  exact w_X12_body_0 ⟨B.exec, B.bytes, hml, findClass_of_methodNamed B.named, fun w hw => atoms_spec (ws := Cond.code yX12_body cX12_body 2 (some .int) :: xTB) B.pre w (List.mem_cons_of_mem _ hw), hK, hI, hE⟩ B.returns B.notSynchronized hf (fun t0 e => e.symm) ⟨hP, va_S.rf⟩ (lv_sub hl [0, 1] rfl)
set_option maxHeartbeats 4000000 in
set_option maxRecDepth 100000 in
theorem w_X12_isUnder_56 (hM : xM p c cX12_isUnder m s args RX12 2 D cy xmb a z) (hr : meth.sig.returnType = (some .boolean)) (hlk : meth.locks = false) {S' : xSt} {v' : Int32} {S : xSt} {q : (xSt × Int32)} (h : f_X12_isUnder_56 S = some q) (k0 : ∀ t0 : xSt × Int32, q = t0 → t0 = (S', v')) {H : Heap} {locs : List Loc} (hG : xG D cy xmb a S s H locs) {ls : Array Slot} (hl : lv_has ls 2 []) : W p l e ({ frames := 0, cells := 0, slots := 0, locals := 0 } : Room) s m args below meth c H locs 0 0 (MQ below (xQi D cy xmb a S' v' s.heap.size) args s 0 0 (xA xmb a s.heap.size)) (F0 m 56 ls []) := by
  have hx := hM.1
  have hb := hM.2.1
  refine lv_iconst (v := (1 : Int32)) hx hb dX12_isUnder_56 (by decide) ?_
  refine lv_goto (tgt := 61) hx hb dX12_isUnder_57 (by decide) ?_
  obtain ⟨hz, h⟩ := xgd_at h
  exact x_ri hM hG hr hlk (x_nz hz) (k0 _ (Option.some.inj h).symm) dX12_isUnder_61
set_option maxHeartbeats 4000000 in
set_option maxRecDepth 100000 in
theorem w_X12_isUnder_60 (hM : xM p c cX12_isUnder m s args RX12 2 D cy xmb a z) (hr : meth.sig.returnType = (some .boolean)) (hlk : meth.locks = false) {S' : xSt} {v' : Int32} {S : xSt} {q : (xSt × Int32)} (h : f_X12_isUnder_60 S = some q) (k0 : ∀ t0 : xSt × Int32, q = t0 → t0 = (S', v')) {H : Heap} {locs : List Loc} (hG : xG D cy xmb a S s H locs) {ls : Array Slot} (hl : lv_has ls 2 []) : W p l e ({ frames := 0, cells := 0, slots := 0, locals := 0 } : Room) s m args below meth c H locs 0 0 (MQ below (xQi D cy xmb a S' v' s.heap.size) args s 0 0 (xA xmb a s.heap.size)) (F0 m 60 ls []) := by
  have hx := hM.1
  have hb := hM.2.1
  refine lv_iconst (v := (0 : Int32)) hx hb dX12_isUnder_60 (by decide) ?_
  obtain ⟨hz, h⟩ := xgd_at h
  exact x_ri hM hG hr hlk (x_nz hz) (k0 _ (Option.some.inj h).symm) dX12_isUnder_61
set_option maxHeartbeats 4000000 in
set_option maxRecDepth 100000 in
theorem w_X12_isUnder_44 {x0 : Int32} {x1 : Int32} (hM : xM p c cX12_isUnder m s args RX12 2 D cy xmb a z) (hr : meth.sig.returnType = (some .boolean)) (hlk : meth.locks = false) {S' : xSt} {v' : Int32} {S : xSt} {q : (xSt × Int32)} (h : f_X12_isUnder_44 x0 x1 S = some q) (k0 : ∀ t0 : xSt × Int32, q = t0 → t0 = (S', v')) {H : Heap} {locs : List Loc} (hG : xG D cy xmb a S s H locs) {ls : Array Slot} (hl : lv_has ls 2 [(0, .int x0), (1, .int x1)]) : W p l e ({ frames := 0, cells := 0, slots := 0, locals := 0 } : Room) s m args below meth c H locs 0 0 (MQ below (xQi D cy xmb a S' v' s.heap.size) args s 0 0 (xA xmb a s.heap.size)) (F0 m 44 ls []) := by
  have hx := hM.1
  have hb := hM.2.1
  refine lv_iload_n hx hb dX12_isUnder_44 rfl (lv_at hl 1 rfl) ?_
  refine lv_bipush (v := (6 : Int32)) hx hb dX12_isUnder_45 (by decide) ?_
  refine x_icmp_ne (tgt := 60) hM h dX12_isUnder_47 (by decide) (fun c_1 h => ?_) (fun c_1 h => ?_)
  · exact w_X12_isUnder_60 hM hr hlk h (fun t0 e => k0 t0 e) hG (lv_sub hl [] rfl)
  · refine lv_iload_n hx hb dX12_isUnder_50 rfl (lv_at hl 0 rfl) ?_
    refine lv_bipush (v := (7 : Int32)) hx hb dX12_isUnder_51 (by decide) ?_
    refine x_icmp_ne (tgt := 60) hM h dX12_isUnder_53 (by decide) (fun c_2 h => ?_) (fun c_2 h => ?_)
    · exact w_X12_isUnder_60 hM hr hlk h (fun t0 e => k0 t0 e) hG (lv_sub hl [] rfl)
    · exact w_X12_isUnder_56 hM hr hlk h (fun t0 e => k0 t0 e) hG (lv_sub hl [] rfl)
set_option maxHeartbeats 4000000 in
set_option maxRecDepth 100000 in
theorem w_X12_isUnder_34 {x0 : Int32} {x1 : Int32} (hM : xM p c cX12_isUnder m s args RX12 2 D cy xmb a z) (hr : meth.sig.returnType = (some .boolean)) (hlk : meth.locks = false) {S' : xSt} {v' : Int32} {S : xSt} {q : (xSt × Int32)} (h : f_X12_isUnder_34 x0 x1 S = some q) (k0 : ∀ t0 : xSt × Int32, q = t0 → t0 = (S', v')) {H : Heap} {locs : List Loc} (hG : xG D cy xmb a S s H locs) {ls : Array Slot} (hl : lv_has ls 2 [(0, .int x0), (1, .int x1)]) : W p l e ({ frames := 0, cells := 0, slots := 0, locals := 0 } : Room) s m args below meth c H locs 0 0 (MQ below (xQi D cy xmb a S' v' s.heap.size) args s 0 0 (xA xmb a s.heap.size)) (F0 m 34 ls []) := by
  have hx := hM.1
  have hb := hM.2.1
  refine lv_iload_n hx hb dX12_isUnder_34 rfl (lv_at hl 1 rfl) ?_
  refine lv_iconst (v := (3 : Int32)) hx hb dX12_isUnder_35 (by decide) ?_
  refine x_icmp_ne (tgt := 44) hM h dX12_isUnder_36 (by decide) (fun c_1 h => ?_) (fun c_1 h => ?_)
  · exact w_X12_isUnder_44 hM hr hlk h (fun t0 e => k0 t0 e) hG (lv_sub hl [0, 1] rfl)
  · refine lv_iload_n hx hb dX12_isUnder_39 rfl (lv_at hl 0 rfl) ?_
    refine lv_iconst (v := (5 : Int32)) hx hb dX12_isUnder_40 (by decide) ?_
    refine x_icmp_eq (tgt := 56) hM h dX12_isUnder_41 (by decide) (fun c_2 h => ?_) (fun c_2 h => ?_)
    · exact w_X12_isUnder_56 hM hr hlk h (fun t0 e => k0 t0 e) hG (lv_sub hl [] rfl)
    · exact w_X12_isUnder_44 hM hr hlk h (fun t0 e => k0 t0 e) hG (lv_sub hl [0, 1] rfl)
set_option maxHeartbeats 4000000 in
set_option maxRecDepth 100000 in
theorem w_X12_isUnder_19 {x0 : Int32} {x1 : Int32} (hM : xM p c cX12_isUnder m s args RX12 2 D cy xmb a z) (hr : meth.sig.returnType = (some .boolean)) (hlk : meth.locks = false) {S' : xSt} {v' : Int32} {S : xSt} {q : (xSt × Int32)} (h : f_X12_isUnder_19 x0 x1 S = some q) (k0 : ∀ t0 : xSt × Int32, q = t0 → t0 = (S', v')) {H : Heap} {locs : List Loc} (hG : xG D cy xmb a S s H locs) {ls : Array Slot} (hl : lv_has ls 2 [(0, .int x0), (1, .int x1)]) : W p l e ({ frames := 0, cells := 0, slots := 0, locals := 0 } : Room) s m args below meth c H locs 0 0 (MQ below (xQi D cy xmb a S' v' s.heap.size) args s 0 0 (xA xmb a s.heap.size)) (F0 m 19 ls []) := by
  have hx := hM.1
  have hb := hM.2.1
  refine lv_iload_n hx hb dX12_isUnder_19 rfl (lv_at hl 1 rfl) ?_
  refine lv_iconst (v := (2 : Int32)) hx hb dX12_isUnder_20 (by decide) ?_
  refine x_icmp_ne (tgt := 34) hM h dX12_isUnder_21 (by decide) (fun c_1 h => ?_) (fun c_1 h => ?_)
  · exact w_X12_isUnder_34 hM hr hlk h (fun t0 e => k0 t0 e) hG (lv_sub hl [0, 1] rfl)
  · refine lv_iload_n hx hb dX12_isUnder_24 rfl (lv_at hl 0 rfl) ?_
    refine lv_iconst (v := (3 : Int32)) hx hb dX12_isUnder_25 (by decide) ?_
    refine x_icmp_eq (tgt := 56) hM h dX12_isUnder_26 (by decide) (fun c_2 h => ?_) (fun c_2 h => ?_)
    · exact w_X12_isUnder_56 hM hr hlk h (fun t0 e => k0 t0 e) hG (lv_sub hl [] rfl)
    · refine lv_iload_n hx hb dX12_isUnder_29 rfl (lv_at hl 0 rfl) ?_
      refine lv_iconst (v := (5 : Int32)) hx hb dX12_isUnder_30 (by decide) ?_
      refine x_icmp_eq (tgt := 56) hM h dX12_isUnder_31 (by decide) (fun c_3 h => ?_) (fun c_3 h => ?_)
      · exact w_X12_isUnder_56 hM hr hlk h (fun t0 e => k0 t0 e) hG (lv_sub hl [] rfl)
      · exact w_X12_isUnder_34 hM hr hlk h (fun t0 e => k0 t0 e) hG (lv_sub hl [0, 1] rfl)
set_option maxHeartbeats 4000000 in
set_option maxRecDepth 100000 in
theorem w_X12_isUnder_0 {x0 : Int32} {x1 : Int32} (hM : xM p c cX12_isUnder m s args RX12 2 D cy xmb a z) (hr : meth.sig.returnType = (some .boolean)) (hlk : meth.locks = false) {S' : xSt} {v' : Int32} {S : xSt} {q : (xSt × Int32)} (h : f_X12_isUnder_0 x0 x1 S = some q) (k0 : ∀ t0 : xSt × Int32, q = t0 → t0 = (S', v')) {H : Heap} {locs : List Loc} (hG : xG D cy xmb a S s H locs) {ls : Array Slot} (hl : lv_has ls 2 [(0, .int x0), (1, .int x1)]) : W p l e ({ frames := 0, cells := 0, slots := 0, locals := 0 } : Room) s m args below meth c H locs 0 0 (MQ below (xQi D cy xmb a S' v' s.heap.size) args s 0 0 (xA xmb a s.heap.size)) (F0 m 0 ls []) := by
  have hx := hM.1
  have hb := hM.2.1
  refine lv_iload_n hx hb dX12_isUnder_0 rfl (lv_at hl 1 rfl) ?_
  refine x_if_eq (tgt := 56) hM h dX12_isUnder_1 (by decide) (fun c_1 h => ?_) (fun c_1 h => ?_)
  · exact w_X12_isUnder_56 hM hr hlk h (fun t0 e => k0 t0 e) hG (lv_sub hl [] rfl)
  · refine lv_iload_n hx hb dX12_isUnder_4 rfl (lv_at hl 0 rfl) ?_
    refine lv_iload_n hx hb dX12_isUnder_5 rfl (lv_at hl 1 rfl) ?_
    refine x_icmp_eq (tgt := 56) hM h dX12_isUnder_6 (by decide) (fun c_2 h => ?_) (fun c_2 h => ?_)
    · exact w_X12_isUnder_56 hM hr hlk h (fun t0 e => k0 t0 e) hG (lv_sub hl [] rfl)
    · refine lv_iload_n hx hb dX12_isUnder_9 rfl (lv_at hl 1 rfl) ?_
      refine lv_iconst (v := (1 : Int32)) hx hb dX12_isUnder_10 (by decide) ?_
      refine x_icmp_ne (tgt := 19) hM h dX12_isUnder_11 (by decide) (fun c_3 h => ?_) (fun c_3 h => ?_)
      · exact w_X12_isUnder_19 hM hr hlk h (fun t0 e => k0 t0 e) hG (lv_sub hl [0, 1] rfl)
      · refine lv_iload_n hx hb dX12_isUnder_14 rfl (lv_at hl 0 rfl) ?_
        refine lv_iconst (v := (4 : Int32)) hx hb dX12_isUnder_15 (by decide) ?_
        refine x_icmp_eq (tgt := 56) hM h dX12_isUnder_16 (by decide) (fun c_4 h => ?_) (fun c_4 h => ?_)
        · exact w_X12_isUnder_56 hM hr hlk h (fun t0 e => k0 t0 e) hG (lv_sub hl [] rfl)
        · exact w_X12_isUnder_19 hM hr hlk h (fun t0 e => k0 t0 e) hG (lv_sub hl [0, 1] rfl)
set_option maxHeartbeats 4000000 in
set_option maxRecDepth 100000 in
theorem c_X12_isUnder {l : Launch} {D : va_G} {cy : Nat → ClassId} {a z : Nat → Nat} (hI : xI xmb a) {S : xSt} {x0 : Int32} {x1 : Int32} {S' : xSt} {v' : Int32} (hf : f_X12_isUnder S x0 x1 = some (S', v')) (sz : Nat) : Met l yX12_isUnder (Cond.code yX12_isUnder cX12_isUnder 2 (some .boolean) :: xTB) ({ frames := 0, cells := 0, slots := 0, locals := 0 } : Room) (va_Pc [.int x0, .int x1] (xPre D cy xmb a z S sz)) (xQi D cy xmb a S' v' sz) 0 0 (xA xmb a sz) := by
  refine Met.ofW (cc := cX12_isUnder) (maxL := 2) (ret := (some .boolean)) (by decide) rfl ?_
  intro p e s m args below meth c s₁ B hml hv
  obtain ⟨rfl, hsz, hP, hK, hE⟩ := hv
  subst hsz
  have hl := lv_entry ([.int x0, .int x1]) (n := 2) (Nat.le_of_ble_eq_true rfl)
  rw [lg_entry_eq]
  generalize (lg_sl ([.int x0, .int x1]) ++ List.replicate (2 - (lg_sl ([.int x0, .int x1])).length) Slot.unset).toArray = ls at hl ⊢
  have hl : lv_has ls 2 [(0, .int x0), (1, .int x1)] := hl
  exact w_X12_isUnder_0 ⟨B.exec, B.bytes, hml, findClass_of_methodNamed B.named, fun w hw => atoms_spec (ws := Cond.code yX12_isUnder cX12_isUnder 2 (some .boolean) :: xTB) B.pre w (List.mem_cons_of_mem _ hw), hK, hI, hE⟩ B.returns B.notSynchronized hf (fun t0 e => e.symm) ⟨hP, va_S.rf⟩ (lv_sub hl [0, 1] rfl)
set_option maxHeartbeats 4000000 in
set_option maxRecDepth 100000 in
theorem w_X12_plainReads_0 {x1 : Int32} {x2 : Int32} (hM : xM p c cX12_plainReads m s args RX12 3 D cy xmb a z) (hr : meth.sig.returnType = (some .int)) (hlk : meth.locks = false) {S' : xSt} {v' : Int32} {S : xSt} {q : (xSt × Int32)} (h : f_X12_plainReads_0 x1 x2 S = some q) (k0 : ∀ t0 : xSt × Int32, q = t0 → t0 = (S', v')) {H : Heap} {locs : List Loc} (hG : xG D cy xmb a S s H locs) {ls : Array Slot} (hl : lv_has ls 3 [(0, .ref (a 0)), (1, .int x1), (2, .int x2)]) : W p l e ({ frames := 1, cells := 0, slots := 0, locals := 21 } : Room) s m args below meth c H locs 0 0 (MQ below (xQi D cy xmb a S' v' s.heap.size) args s 0 0 (xA xmb a s.heap.size)) (F0 m 0 ls []) := by
  have hx := hM.1
  have hb := hM.2.1
  refine lv_aload_n hx hb dX12_plainReads_0 rfl (lv_at hl 0 rfl) ?_
  refine lv_iconst (v := (1 : Int32)) hx hb dX12_plainReads_1 (by decide) ?_
  refine x_cVv (As := [.int (1 : Int32)]) (rest := []) hM hG xml_X12_408 xwi_X12_ran xws_X12_ran xmt_0 (by decide) rfl h (fun S' v e => c_X12_ran hM.2.2.2.2.2.2.1 e _) ⟨Nat.le_of_ble_eq_true rfl, Nat.le_of_ble_eq_true rfl⟩ rfl hl.1 rfl (Nat.le_of_ble_eq_true rfl) dX12_plainReads_2 (fun S_1 v_2 H locs h hG => ?_)
  refine lv_iload_n hx hb dX12_plainReads_5 rfl (lv_at hl 2 rfl) ?_
  refine lv_iload_n hx hb dX12_plainReads_6 rfl (lv_at hl 1 rfl) ?_
  refine x_iadd hM h dX12_plainReads_7 (fun v_3 h => ?_)
  exact x_ri hM hG hr hlk rfl (k0 _ (Option.some.inj h).symm) dX12_plainReads_8
set_option maxHeartbeats 4000000 in
set_option maxRecDepth 100000 in
theorem c_X12_plainReads {l : Launch} {D : va_G} {cy : Nat → ClassId} {a z : Nat → Nat} (hI : xI xmb a) {S : xSt} {x1 : Int32} {x2 : Int32} {S' : xSt} {v' : Int32} (hf : f_X12_plainReads S x1 x2 = some (S', v')) (sz : Nat) : Met l yX12_plainReads (Cond.code yX12_plainReads cX12_plainReads 3 (some .int) :: xTB) ({ frames := 1, cells := 0, slots := 0, locals := 21 } : Room) (va_Pc [.ref (a 0), .int x1, .int x2] (xPre D cy xmb a z S sz)) (xQi D cy xmb a S' v' sz) 0 0 (xA xmb a sz) := by
  refine Met.ofW (cc := cX12_plainReads) (maxL := 3) (ret := (some .int)) (by decide) rfl ?_
  intro p e s m args below meth c s₁ B hml hv
  obtain ⟨rfl, hsz, hP, hK, hE⟩ := hv
  subst hsz
  have hl := lv_entry ([.ref (a 0), .int x1, .int x2]) (n := 3) (Nat.le_of_ble_eq_true rfl)
  rw [lg_entry_eq]
  generalize (lg_sl ([.ref (a 0), .int x1, .int x2]) ++ List.replicate (3 - (lg_sl ([.ref (a 0), .int x1, .int x2])).length) Slot.unset).toArray = ls at hl ⊢
  have hl : lv_has ls 3 [(0, .ref (a 0)), (1, .int x1), (2, .int x2)] := hl
  exact w_X12_plainReads_0 ⟨B.exec, B.bytes, hml, findClass_of_methodNamed B.named, fun w hw => atoms_spec (ws := Cond.code yX12_plainReads cX12_plainReads 3 (some .int) :: xTB) B.pre w (List.mem_cons_of_mem _ hw), hK, hI, hE⟩ B.returns B.notSynchronized hf (fun t0 e => e.symm) ⟨hP, va_S.rf⟩ (lv_sub hl [0, 1, 2] rfl)
set_option maxHeartbeats 4000000 in
set_option maxRecDepth 100000 in
theorem w_X12_saltReads_0 {x1 : Int32} {x2 : Int32} (hM : xM p c cX12_saltReads m s args RX12 3 D cy xmb a z) (hr : meth.sig.returnType = (some .int)) (hlk : meth.locks = false) {S' : xSt} {v' : Int32} {S : xSt} {q : (xSt × Int32)} (h : f_X12_saltReads_0 x1 x2 S = some q) (k0 : ∀ t0 : xSt × Int32, q = t0 → t0 = (S', v')) {H : Heap} {locs : List Loc} (hG : xG D cy xmb a S s H locs) {ls : Array Slot} (hl : lv_has ls 3 [(0, .ref (a 0)), (1, .int x1), (2, .int x2)]) : W p l e ({ frames := 2, cells := 0, slots := 0, locals := 43 } : Room) s m args below meth c H locs 0 0 (MQ below (xQi D cy xmb a S' v' s.heap.size) args s 0 0 (xA xmb a s.heap.size)) (F0 m 0 ls []) := by
  have hx := hM.1
  have hb := hM.2.1
  refine lv_aload_n hx hb dX12_saltReads_0 rfl (lv_at hl 0 rfl) ?_
  refine lv_bipush (v := (70 : Int32)) hx hb dX12_saltReads_1 (by decide) ?_
  refine x_cVv (As := [.int (70 : Int32)]) (rest := []) hM hG xml_X12_408 xwi_X12_ran xws_X12_ran xmt_0 (by decide) rfl h (fun S' v e => c_X12_ran hM.2.2.2.2.2.2.1 e _) ⟨Nat.le_of_ble_eq_true rfl, Nat.le_of_ble_eq_true rfl⟩ rfl hl.1 rfl (Nat.le_of_ble_eq_true rfl) dX12_saltReads_3 (fun S_1 v_2 H locs h hG => ?_)
  refine lv_aload_n hx hb dX12_saltReads_6 rfl (lv_at hl 0 rfl) ?_
  refine lv_iload_n hx hb dX12_saltReads_7 rfl (lv_at hl 1 rfl) ?_
  refine lv_iload_n hx hb dX12_saltReads_8 rfl (lv_at hl 2 rfl) ?_
  refine x_cVi (As := [.int x1, .int x2]) (rest := []) hM hG xml_X12_411 xwi_X12_plainReads xws_X12_plainReads xmt_0 (by decide) rfl h (fun S' v e => c_X12_plainReads hM.2.2.2.2.2.2.1 e _) ⟨Nat.le_of_ble_eq_true rfl, Nat.le_of_ble_eq_true rfl⟩ rfl hl.1 rfl (Nat.le_of_ble_eq_true rfl) dX12_saltReads_9 (fun S_3 v_4 H locs h hG => ?_)
  refine lv_iconst (v := (2 : Int32)) hx hb dX12_saltReads_12 (by decide) ?_
  refine x_imul hM h dX12_saltReads_13 (fun v_5 h => ?_)
  exact x_ri hM hG hr hlk rfl (k0 _ (Option.some.inj h).symm) dX12_saltReads_14
set_option maxHeartbeats 4000000 in
set_option maxRecDepth 100000 in
theorem c_X12_saltReads {l : Launch} {D : va_G} {cy : Nat → ClassId} {a z : Nat → Nat} (hI : xI xmb a) {S : xSt} {x1 : Int32} {x2 : Int32} {S' : xSt} {v' : Int32} (hf : f_X12_saltReads S x1 x2 = some (S', v')) (sz : Nat) : Met l yX12_saltReads (Cond.code yX12_saltReads cX12_saltReads 3 (some .int) :: xTB) ({ frames := 2, cells := 0, slots := 0, locals := 43 } : Room) (va_Pc [.ref (a 0), .int x1, .int x2] (xPre D cy xmb a z S sz)) (xQi D cy xmb a S' v' sz) 0 0 (xA xmb a sz) := by
  refine Met.ofW (cc := cX12_saltReads) (maxL := 3) (ret := (some .int)) (by decide) rfl ?_
  intro p e s m args below meth c s₁ B hml hv
  obtain ⟨rfl, hsz, hP, hK, hE⟩ := hv
  subst hsz
  have hl := lv_entry ([.ref (a 0), .int x1, .int x2]) (n := 3) (Nat.le_of_ble_eq_true rfl)
  rw [lg_entry_eq]
  generalize (lg_sl ([.ref (a 0), .int x1, .int x2]) ++ List.replicate (3 - (lg_sl ([.ref (a 0), .int x1, .int x2])).length) Slot.unset).toArray = ls at hl ⊢
  have hl : lv_has ls 3 [(0, .ref (a 0)), (1, .int x1), (2, .int x2)] := hl
  exact w_X12_saltReads_0 ⟨B.exec, B.bytes, hml, findClass_of_methodNamed B.named, fun w hw => atoms_spec (ws := Cond.code yX12_saltReads cX12_saltReads 3 (some .int) :: xTB) B.pre w (List.mem_cons_of_mem _ hw), hK, hI, hE⟩ B.returns B.notSynchronized hf (fun t0 e => e.symm) ⟨hP, va_S.rf⟩ (lv_sub hl [0, 1, 2] rfl)
set_option maxHeartbeats 4000000 in
set_option maxRecDepth 100000 in
theorem w_X12_reading_0 {x1 : Int32} {x2 : Int32} (hM : xM p c cX12_reading m s args RX12 3 D cy xmb a z) (hr : meth.sig.returnType = (some .int)) (hlk : meth.locks = false) {S' : xSt} {v' : Int32} {S : xSt} {q : (xSt × Int32)} (h : f_X12_reading_0 x1 x2 S = some q) (k0 : ∀ t0 : xSt × Int32, q = t0 → t0 = (S', v')) {H : Heap} {locs : List Loc} (hG : xG D cy xmb a S s H locs) {ls : Array Slot} (hl : lv_has ls 3 [(0, .ref (a 0)), (1, .int x1), (2, .int x2)]) : W p l e ({ frames := 3, cells := 0, slots := 0, locals := 65 } : Room) s m args below meth c H locs 0 0 (MQ below (xQi D cy xmb a S' v' s.heap.size) args s 0 0 (xA xmb a s.heap.size)) (F0 m 0 ls []) := by
  have hx := hM.1
  have hb := hM.2.1
  refine lv_aload_n hx hb dX12_reading_0 rfl (lv_at hl 0 rfl) ?_
  refine x_gr (r := 35) hM hG xfl_X12_120 xmt_0 (by decide) rfl dX12_reading_1 ?_
  refine lv_iload_n hx hb dX12_reading_4 rfl (lv_at hl 1 rfl) ?_
  refine x_iald hM hG xmt_35 h dX12_reading_5 (fun v_1 h => ?_)
  refine lv_iconst (v := (1 : Int32)) hx hb dX12_reading_6 (by decide) ?_
  refine x_cSi (As := [.int v_1, .int (1 : Int32)]) (rest := []) hM hG xml_X12_414 xwt_X12_isUnder h (fun S' v e => c_X12_isUnder hM.2.2.2.2.2.2.1 e _) ⟨Nat.le_of_ble_eq_true rfl, Nat.le_of_ble_eq_true rfl⟩ rfl hl.1 rfl (Nat.le_of_ble_eq_true rfl) dX12_reading_7 (fun S_2 v_3 H locs h hG => ?_)
  refine x_if_eq (tgt := 28) hM h dX12_reading_10 (by decide) (fun c_4 h => ?_) (fun c_4 h => ?_)
  · refine lv_aload_n hx hb dX12_reading_28 rfl (lv_at hl 0 rfl) ?_
    refine x_gr (r := 35) hM hG xfl_X12_120 xmt_0 (by decide) rfl dX12_reading_29 ?_
    refine lv_iload_n hx hb dX12_reading_32 rfl (lv_at hl 1 rfl) ?_
    refine x_iald hM hG xmt_35 h dX12_reading_33 (fun v_5 h => ?_)
    refine lv_bipush (v := (7 : Int32)) hx hb dX12_reading_34 (by decide) ?_
    refine x_icmp_ne (tgt := 54) hM h dX12_reading_36 (by decide) (fun c_6 h => ?_) (fun c_6 h => ?_)
    · refine lv_aload_n hx hb dX12_reading_54 rfl (lv_at hl 0 rfl) ?_
      refine x_gr (r := 35) hM hG xfl_X12_120 xmt_0 (by decide) rfl dX12_reading_55 ?_
      refine lv_iload_n hx hb dX12_reading_58 rfl (lv_at hl 1 rfl) ?_
      refine x_iald hM hG xmt_35 h dX12_reading_59 (fun v_7 h => ?_)
      refine lv_bipush (v := (6 : Int32)) hx hb dX12_reading_60 (by decide) ?_
      refine x_icmp_ne (tgt := 74) hM h dX12_reading_62 (by decide) (fun c_8 h => ?_) (fun c_8 h => ?_)
      · refine lv_aload_n hx hb dX12_reading_74 rfl (lv_at hl 0 rfl) ?_
        refine lv_iload_n hx hb dX12_reading_75 rfl (lv_at hl 1 rfl) ?_
        refine lv_iload_n hx hb dX12_reading_76 rfl (lv_at hl 2 rfl) ?_
        refine x_cVi (As := [.int x1, .int x2]) (rest := []) hM hG xml_X12_411 xwi_X12_plainReads xws_X12_plainReads xmt_0 (by decide) rfl h (fun S' v e => c_X12_plainReads hM.2.2.2.2.2.2.1 e _) ⟨Nat.le_of_ble_eq_true rfl, Nat.le_of_ble_eq_true rfl⟩ rfl hl.1 rfl (Nat.le_of_ble_eq_true rfl) dX12_reading_77 (fun S_9 v_10 H locs h hG => ?_)
        exact x_ri hM hG hr hlk rfl (k0 _ (Option.some.inj h).symm) dX12_reading_80
      · refine lv_aload_n hx hb dX12_reading_65 rfl (lv_at hl 0 rfl) ?_
        refine lv_iload_n hx hb dX12_reading_66 rfl (lv_at hl 1 rfl) ?_
        refine lv_iload_n hx hb dX12_reading_67 rfl (lv_at hl 2 rfl) ?_
        refine x_cVi (As := [.int x1, .int x2]) (rest := []) hM hG xml_X12_417 xwi_X12_saltReads xws_X12_saltReads xmt_0 (by decide) rfl h (fun S' v e => c_X12_saltReads hM.2.2.2.2.2.2.1 e _) ⟨Nat.le_of_ble_eq_true rfl, Nat.le_of_ble_eq_true rfl⟩ rfl hl.1 rfl (Nat.le_of_ble_eq_true rfl) dX12_reading_68 (fun S_11 v_12 H locs h hG => ?_)
        refine lv_goto (tgt := 80) hx hb dX12_reading_71 (by decide) ?_
        exact x_ri hM hG hr hlk rfl (k0 _ (Option.some.inj h).symm) dX12_reading_80
    · refine lv_aload_n hx hb dX12_reading_39 rfl (lv_at hl 0 rfl) ?_
      refine lv_bipush (v := (81 : Int32)) hx hb dX12_reading_40 (by decide) ?_
      refine x_cVv (As := [.int (81 : Int32)]) (rest := []) hM hG xml_X12_408 xwi_X12_ran xws_X12_ran xmt_0 (by decide) rfl h (fun S' v e => c_X12_ran hM.2.2.2.2.2.2.1 e _) ⟨Nat.le_of_ble_eq_true rfl, Nat.le_of_ble_eq_true rfl⟩ rfl hl.1 rfl (Nat.le_of_ble_eq_true rfl) dX12_reading_42 (fun S_13 v_14 H locs h hG => ?_)
      refine lv_aload_n hx hb dX12_reading_45 rfl (lv_at hl 0 rfl) ?_
      refine lv_iload_n hx hb dX12_reading_46 rfl (lv_at hl 1 rfl) ?_
      refine lv_iload_n hx hb dX12_reading_47 rfl (lv_at hl 2 rfl) ?_
      refine x_cVi (As := [.int x1, .int x2]) (rest := []) hM hG xml_X12_417 xwi_X12_saltReads xws_X12_saltReads xmt_0 (by decide) rfl h (fun S' v e => c_X12_saltReads hM.2.2.2.2.2.2.1 e _) ⟨Nat.le_of_ble_eq_true rfl, Nat.le_of_ble_eq_true rfl⟩ rfl hl.1 rfl (Nat.le_of_ble_eq_true rfl) dX12_reading_48 (fun S_15 v_16 H locs h hG => ?_)
      refine lv_iconst (v := (1 : Int32)) hx hb dX12_reading_51 (by decide) ?_
      refine x_isub hM h dX12_reading_52 (fun v_17 h => ?_)
      exact x_ri hM hG hr hlk rfl (k0 _ (Option.some.inj h).symm) dX12_reading_53
  · refine lv_aload_n hx hb dX12_reading_13 rfl (lv_at hl 0 rfl) ?_
    refine lv_bipush (v := (20 : Int32)) hx hb dX12_reading_14 (by decide) ?_
    refine x_cVv (As := [.int (20 : Int32)]) (rest := []) hM hG xml_X12_408 xwi_X12_ran xws_X12_ran xmt_0 (by decide) rfl h (fun S' v e => c_X12_ran hM.2.2.2.2.2.2.1 e _) ⟨Nat.le_of_ble_eq_true rfl, Nat.le_of_ble_eq_true rfl⟩ rfl hl.1 rfl (Nat.le_of_ble_eq_true rfl) dX12_reading_16 (fun S_18 v_19 H locs h hG => ?_)
    refine lv_aload_n hx hb dX12_reading_19 rfl (lv_at hl 0 rfl) ?_
    refine lv_iload_n hx hb dX12_reading_20 rfl (lv_at hl 1 rfl) ?_
    refine lv_iload_n hx hb dX12_reading_21 rfl (lv_at hl 2 rfl) ?_
    refine x_cVi (As := [.int x1, .int x2]) (rest := []) hM hG xml_X12_411 xwi_X12_plainReads xws_X12_plainReads xmt_0 (by decide) rfl h (fun S' v e => c_X12_plainReads hM.2.2.2.2.2.2.1 e _) ⟨Nat.le_of_ble_eq_true rfl, Nat.le_of_ble_eq_true rfl⟩ rfl hl.1 rfl (Nat.le_of_ble_eq_true rfl) dX12_reading_22 (fun S_20 v_21 H locs h hG => ?_)
    refine lv_iconst (v := (3 : Int32)) hx hb dX12_reading_25 (by decide) ?_
    refine x_iadd hM h dX12_reading_26 (fun v_22 h => ?_)
    exact x_ri hM hG hr hlk rfl (k0 _ (Option.some.inj h).symm) dX12_reading_27
set_option maxHeartbeats 4000000 in
set_option maxRecDepth 100000 in
theorem c_X12_reading {l : Launch} {D : va_G} {cy : Nat → ClassId} {a z : Nat → Nat} (hI : xI xmb a) {S : xSt} {x1 : Int32} {x2 : Int32} {S' : xSt} {v' : Int32} (hf : f_X12_reading S x1 x2 = some (S', v')) (sz : Nat) : Met l yX12_reading (Cond.code yX12_reading cX12_reading 3 (some .int) :: xTB) ({ frames := 3, cells := 0, slots := 0, locals := 65 } : Room) (va_Pc [.ref (a 0), .int x1, .int x2] (xPre D cy xmb a z S sz)) (xQi D cy xmb a S' v' sz) 0 0 (xA xmb a sz) := by
  refine Met.ofW (cc := cX12_reading) (maxL := 3) (ret := (some .int)) (by decide) rfl ?_
  intro p e s m args below meth c s₁ B hml hv
  obtain ⟨rfl, hsz, hP, hK, hE⟩ := hv
  subst hsz
  have hl := lv_entry ([.ref (a 0), .int x1, .int x2]) (n := 3) (Nat.le_of_ble_eq_true rfl)
  rw [lg_entry_eq]
  generalize (lg_sl ([.ref (a 0), .int x1, .int x2]) ++ List.replicate (3 - (lg_sl ([.ref (a 0), .int x1, .int x2])).length) Slot.unset).toArray = ls at hl ⊢
  have hl : lv_has ls 3 [(0, .ref (a 0)), (1, .int x1), (2, .int x2)] := hl
  exact w_X12_reading_0 ⟨B.exec, B.bytes, hml, findClass_of_methodNamed B.named, fun w hw => atoms_spec (ws := Cond.code yX12_reading cX12_reading 3 (some .int) :: xTB) B.pre w (List.mem_cons_of_mem _ hw), hK, hI, hE⟩ B.returns B.notSynchronized hf (fun t0 e => e.symm) ⟨hP, va_S.rf⟩ (lv_sub hl [0, 1, 2] rfl)
set_option maxHeartbeats 4000000 in
set_option maxRecDepth 100000 in
theorem w_X12_plainHeats_0 {x1 : Int32} {x2 : Int32} (hM : xM p c cX12_plainHeats m s args RX12 3 D cy xmb a z) (hr : meth.sig.returnType = (some .int)) (hlk : meth.locks = false) {S' : xSt} {v' : Int32} {S : xSt} {q : (xSt × Int32)} (h : f_X12_plainHeats_0 x1 x2 S = some q) (k0 : ∀ t0 : xSt × Int32, q = t0 → t0 = (S', v')) {H : Heap} {locs : List Loc} (hG : xG D cy xmb a S s H locs) {ls : Array Slot} (hl : lv_has ls 3 [(0, .ref (a 0)), (1, .int x1), (2, .int x2)]) : W p l e ({ frames := 4, cells := 0, slots := 0, locals := 87 } : Room) s m args below meth c H locs 0 0 (MQ below (xQi D cy xmb a S' v' s.heap.size) args s 0 0 (xA xmb a s.heap.size)) (F0 m 0 ls []) := by
  have hx := hM.1
  have hb := hM.2.1
  refine lv_aload_n hx hb dX12_plainHeats_0 rfl (lv_at hl 0 rfl) ?_
  refine lv_bipush (v := (10 : Int32)) hx hb dX12_plainHeats_1 (by decide) ?_
  refine x_cVv (As := [.int (10 : Int32)]) (rest := []) hM hG xml_X12_408 xwi_X12_ran xws_X12_ran xmt_0 (by decide) rfl h (fun S' v e => c_X12_ran hM.2.2.2.2.2.2.1 e _) ⟨Nat.le_of_ble_eq_true rfl, Nat.le_of_ble_eq_true rfl⟩ rfl hl.1 rfl (Nat.le_of_ble_eq_true rfl) dX12_plainHeats_3 (fun S_1 v_2 H locs h hG => ?_)
  refine lv_aload_n hx hb dX12_plainHeats_6 rfl (lv_at hl 0 rfl) ?_
  refine lv_iload_n hx hb dX12_plainHeats_7 rfl (lv_at hl 1 rfl) ?_
  refine lv_iload_n hx hb dX12_plainHeats_8 rfl (lv_at hl 2 rfl) ?_
  refine x_cVi (As := [.int x1, .int x2]) (rest := []) hM hG xml_X12_420 xwi_X12_reading xws_X12_reading xmt_0 (by decide) rfl h (fun S' v e => c_X12_reading hM.2.2.2.2.2.2.1 e _) ⟨Nat.le_of_ble_eq_true rfl, Nat.le_of_ble_eq_true rfl⟩ rfl hl.1 rfl (Nat.le_of_ble_eq_true rfl) dX12_plainHeats_9 (fun S_3 v_4 H locs h hG => ?_)
  refine lv_iconst (v := (2 : Int32)) hx hb dX12_plainHeats_12 (by decide) ?_
  refine x_imul hM h dX12_plainHeats_13 (fun v_5 h => ?_)
  exact x_ri hM hG hr hlk rfl (k0 _ (Option.some.inj h).symm) dX12_plainHeats_14
set_option maxHeartbeats 4000000 in
set_option maxRecDepth 100000 in
theorem c_X12_plainHeats {l : Launch} {D : va_G} {cy : Nat → ClassId} {a z : Nat → Nat} (hI : xI xmb a) {S : xSt} {x1 : Int32} {x2 : Int32} {S' : xSt} {v' : Int32} (hf : f_X12_plainHeats S x1 x2 = some (S', v')) (sz : Nat) : Met l yX12_plainHeats (Cond.code yX12_plainHeats cX12_plainHeats 3 (some .int) :: xTB) ({ frames := 4, cells := 0, slots := 0, locals := 87 } : Room) (va_Pc [.ref (a 0), .int x1, .int x2] (xPre D cy xmb a z S sz)) (xQi D cy xmb a S' v' sz) 0 0 (xA xmb a sz) := by
  refine Met.ofW (cc := cX12_plainHeats) (maxL := 3) (ret := (some .int)) (by decide) rfl ?_
  intro p e s m args below meth c s₁ B hml hv
  obtain ⟨rfl, hsz, hP, hK, hE⟩ := hv
  subst hsz
  have hl := lv_entry ([.ref (a 0), .int x1, .int x2]) (n := 3) (Nat.le_of_ble_eq_true rfl)
  rw [lg_entry_eq]
  generalize (lg_sl ([.ref (a 0), .int x1, .int x2]) ++ List.replicate (3 - (lg_sl ([.ref (a 0), .int x1, .int x2])).length) Slot.unset).toArray = ls at hl ⊢
  have hl : lv_has ls 3 [(0, .ref (a 0)), (1, .int x1), (2, .int x2)] := hl
  exact w_X12_plainHeats_0 ⟨B.exec, B.bytes, hml, findClass_of_methodNamed B.named, fun w hw => atoms_spec (ws := Cond.code yX12_plainHeats cX12_plainHeats 3 (some .int) :: xTB) B.pre w (List.mem_cons_of_mem _ hw), hK, hI, hE⟩ B.returns B.notSynchronized hf (fun t0 e => e.symm) ⟨hP, va_S.rf⟩ (lv_sub hl [0, 1, 2] rfl)
set_option maxHeartbeats 4000000 in
set_option maxRecDepth 100000 in
theorem w_X12_smokeHeats_0 {x1 : Int32} {x2 : Int32} (hM : xM p c cX12_smokeHeats m s args RX12 3 D cy xmb a z) (hr : meth.sig.returnType = (some .int)) (hlk : meth.locks = false) {S' : xSt} {v' : Int32} {S : xSt} {q : (xSt × Int32)} (h : f_X12_smokeHeats_0 x1 x2 S = some q) (k0 : ∀ t0 : xSt × Int32, q = t0 → t0 = (S', v')) {H : Heap} {locs : List Loc} (hG : xG D cy xmb a S s H locs) {ls : Array Slot} (hl : lv_has ls 3 [(0, .ref (a 0)), (1, .int x1), (2, .int x2)]) : W p l e ({ frames := 5, cells := 0, slots := 0, locals := 109 } : Room) s m args below meth c H locs 0 0 (MQ below (xQi D cy xmb a S' v' s.heap.size) args s 0 0 (xA xmb a s.heap.size)) (F0 m 0 ls []) := by
  have hx := hM.1
  have hb := hM.2.1
  refine lv_aload_n hx hb dX12_smokeHeats_0 rfl (lv_at hl 0 rfl) ?_
  refine lv_bipush (v := (30 : Int32)) hx hb dX12_smokeHeats_1 (by decide) ?_
  refine x_cVv (As := [.int (30 : Int32)]) (rest := []) hM hG xml_X12_408 xwi_X12_ran xws_X12_ran xmt_0 (by decide) rfl h (fun S' v e => c_X12_ran hM.2.2.2.2.2.2.1 e _) ⟨Nat.le_of_ble_eq_true rfl, Nat.le_of_ble_eq_true rfl⟩ rfl hl.1 rfl (Nat.le_of_ble_eq_true rfl) dX12_smokeHeats_3 (fun S_1 v_2 H locs h hG => ?_)
  refine lv_aload_n hx hb dX12_smokeHeats_6 rfl (lv_at hl 0 rfl) ?_
  refine lv_iload_n hx hb dX12_smokeHeats_7 rfl (lv_at hl 1 rfl) ?_
  refine lv_iload_n hx hb dX12_smokeHeats_8 rfl (lv_at hl 2 rfl) ?_
  refine x_cVi (As := [.int x1, .int x2]) (rest := []) hM hG xml_X12_423 xwi_X12_plainHeats xws_X12_plainHeats xmt_0 (by decide) rfl h (fun S' v e => c_X12_plainHeats hM.2.2.2.2.2.2.1 e _) ⟨Nat.le_of_ble_eq_true rfl, Nat.le_of_ble_eq_true rfl⟩ rfl hl.1 rfl (Nat.le_of_ble_eq_true rfl) dX12_smokeHeats_9 (fun S_3 v_4 H locs h hG => ?_)
  refine x_ineg hM h dX12_smokeHeats_12 (fun v_5 h => ?_)
  exact x_ri hM hG hr hlk rfl (k0 _ (Option.some.inj h).symm) dX12_smokeHeats_13
set_option maxHeartbeats 4000000 in
set_option maxRecDepth 100000 in
theorem c_X12_smokeHeats {l : Launch} {D : va_G} {cy : Nat → ClassId} {a z : Nat → Nat} (hI : xI xmb a) {S : xSt} {x1 : Int32} {x2 : Int32} {S' : xSt} {v' : Int32} (hf : f_X12_smokeHeats S x1 x2 = some (S', v')) (sz : Nat) : Met l yX12_smokeHeats (Cond.code yX12_smokeHeats cX12_smokeHeats 3 (some .int) :: xTB) ({ frames := 5, cells := 0, slots := 0, locals := 109 } : Room) (va_Pc [.ref (a 0), .int x1, .int x2] (xPre D cy xmb a z S sz)) (xQi D cy xmb a S' v' sz) 0 0 (xA xmb a sz) := by
  refine Met.ofW (cc := cX12_smokeHeats) (maxL := 3) (ret := (some .int)) (by decide) rfl ?_
  intro p e s m args below meth c s₁ B hml hv
  obtain ⟨rfl, hsz, hP, hK, hE⟩ := hv
  subst hsz
  have hl := lv_entry ([.ref (a 0), .int x1, .int x2]) (n := 3) (Nat.le_of_ble_eq_true rfl)
  rw [lg_entry_eq]
  generalize (lg_sl ([.ref (a 0), .int x1, .int x2]) ++ List.replicate (3 - (lg_sl ([.ref (a 0), .int x1, .int x2])).length) Slot.unset).toArray = ls at hl ⊢
  have hl : lv_has ls 3 [(0, .ref (a 0)), (1, .int x1), (2, .int x2)] := hl
  exact w_X12_smokeHeats_0 ⟨B.exec, B.bytes, hml, findClass_of_methodNamed B.named, fun w hw => atoms_spec (ws := Cond.code yX12_smokeHeats cX12_smokeHeats 3 (some .int) :: xTB) B.pre w (List.mem_cons_of_mem _ hw), hK, hI, hE⟩ B.returns B.notSynchronized hf (fun t0 e => e.symm) ⟨hP, va_S.rf⟩ (lv_sub hl [0, 1, 2] rfl)
set_option maxHeartbeats 4000000 in
set_option maxRecDepth 100000 in
theorem w_X12_plainOpens_0 {x1 : Int32} {x2 : Int32} (hM : xM p c cX12_plainOpens m s args RX12 3 D cy xmb a z) (hr : meth.sig.returnType = (some .int)) (hlk : meth.locks = false) {S' : xSt} {v' : Int32} {S : xSt} {q : (xSt × Int32)} (h : f_X12_plainOpens_0 x1 x2 S = some q) (k0 : ∀ t0 : xSt × Int32, q = t0 → t0 = (S', v')) {H : Heap} {locs : List Loc} (hG : xG D cy xmb a S s H locs) {ls : Array Slot} (hl : lv_has ls 3 [(0, .ref (a 0)), (1, .int x1), (2, .int x2)]) : W p l e ({ frames := 1, cells := 0, slots := 0, locals := 21 } : Room) s m args below meth c H locs 0 0 (MQ below (xQi D cy xmb a S' v' s.heap.size) args s 0 0 (xA xmb a s.heap.size)) (F0 m 0 ls []) := by
  have hx := hM.1
  have hb := hM.2.1
  refine lv_aload_n hx hb dX12_plainOpens_0 rfl (lv_at hl 0 rfl) ?_
  refine lv_bipush (v := (11 : Int32)) hx hb dX12_plainOpens_1 (by decide) ?_
  refine x_cVv (As := [.int (11 : Int32)]) (rest := []) hM hG xml_X12_408 xwi_X12_ran xws_X12_ran xmt_0 (by decide) rfl h (fun S' v e => c_X12_ran hM.2.2.2.2.2.2.1 e _) ⟨Nat.le_of_ble_eq_true rfl, Nat.le_of_ble_eq_true rfl⟩ rfl hl.1 rfl (Nat.le_of_ble_eq_true rfl) dX12_plainOpens_3 (fun S_1 v_2 H locs h hG => ?_)
  refine lv_iload_n hx hb dX12_plainOpens_6 rfl (lv_at hl 2 rfl) ?_
  refine lv_iload_n hx hb dX12_plainOpens_7 rfl (lv_at hl 1 rfl) ?_
  refine x_ixor hM h dX12_plainOpens_8 (fun v_3 h => ?_)
  exact x_ri hM hG hr hlk rfl (k0 _ (Option.some.inj h).symm) dX12_plainOpens_9
set_option maxHeartbeats 4000000 in
set_option maxRecDepth 100000 in
theorem c_X12_plainOpens {l : Launch} {D : va_G} {cy : Nat → ClassId} {a z : Nat → Nat} (hI : xI xmb a) {S : xSt} {x1 : Int32} {x2 : Int32} {S' : xSt} {v' : Int32} (hf : f_X12_plainOpens S x1 x2 = some (S', v')) (sz : Nat) : Met l yX12_plainOpens (Cond.code yX12_plainOpens cX12_plainOpens 3 (some .int) :: xTB) ({ frames := 1, cells := 0, slots := 0, locals := 21 } : Room) (va_Pc [.ref (a 0), .int x1, .int x2] (xPre D cy xmb a z S sz)) (xQi D cy xmb a S' v' sz) 0 0 (xA xmb a sz) := by
  refine Met.ofW (cc := cX12_plainOpens) (maxL := 3) (ret := (some .int)) (by decide) rfl ?_
  intro p e s m args below meth c s₁ B hml hv
  obtain ⟨rfl, hsz, hP, hK, hE⟩ := hv
  subst hsz
  have hl := lv_entry ([.ref (a 0), .int x1, .int x2]) (n := 3) (Nat.le_of_ble_eq_true rfl)
  rw [lg_entry_eq]
  generalize (lg_sl ([.ref (a 0), .int x1, .int x2]) ++ List.replicate (3 - (lg_sl ([.ref (a 0), .int x1, .int x2])).length) Slot.unset).toArray = ls at hl ⊢
  have hl : lv_has ls 3 [(0, .ref (a 0)), (1, .int x1), (2, .int x2)] := hl
  exact w_X12_plainOpens_0 ⟨B.exec, B.bytes, hml, findClass_of_methodNamed B.named, fun w hw => atoms_spec (ws := Cond.code yX12_plainOpens cX12_plainOpens 3 (some .int) :: xTB) B.pre w (List.mem_cons_of_mem _ hw), hK, hI, hE⟩ B.returns B.notSynchronized hf (fun t0 e => e.symm) ⟨hP, va_S.rf⟩ (lv_sub hl [0, 1, 2] rfl)
set_option maxHeartbeats 4000000 in
set_option maxRecDepth 100000 in
theorem w_X12_chimneyOpens_0 {x1 : Int32} {x2 : Int32} (hM : xM p c cX12_chimneyOpens m s args RX12 3 D cy xmb a z) (hr : meth.sig.returnType = (some .int)) (hlk : meth.locks = false) {S' : xSt} {v' : Int32} {S : xSt} {q : (xSt × Int32)} (h : f_X12_chimneyOpens_0 x1 x2 S = some q) (k0 : ∀ t0 : xSt × Int32, q = t0 → t0 = (S', v')) {H : Heap} {locs : List Loc} (hG : xG D cy xmb a S s H locs) {ls : Array Slot} (hl : lv_has ls 3 [(0, .ref (a 0)), (1, .int x1), (2, .int x2)]) : W p l e ({ frames := 2, cells := 0, slots := 0, locals := 43 } : Room) s m args below meth c H locs 0 0 (MQ below (xQi D cy xmb a S' v' s.heap.size) args s 0 0 (xA xmb a s.heap.size)) (F0 m 0 ls []) := by
  have hx := hM.1
  have hb := hM.2.1
  refine lv_aload_n hx hb dX12_chimneyOpens_0 rfl (lv_at hl 0 rfl) ?_
  refine lv_bipush (v := (40 : Int32)) hx hb dX12_chimneyOpens_1 (by decide) ?_
  refine x_cVv (As := [.int (40 : Int32)]) (rest := []) hM hG xml_X12_408 xwi_X12_ran xws_X12_ran xmt_0 (by decide) rfl h (fun S' v e => c_X12_ran hM.2.2.2.2.2.2.1 e _) ⟨Nat.le_of_ble_eq_true rfl, Nat.le_of_ble_eq_true rfl⟩ rfl hl.1 rfl (Nat.le_of_ble_eq_true rfl) dX12_chimneyOpens_3 (fun S_1 v_2 H locs h hG => ?_)
  refine lv_aload_n hx hb dX12_chimneyOpens_6 rfl (lv_at hl 0 rfl) ?_
  refine lv_iload_n hx hb dX12_chimneyOpens_7 rfl (lv_at hl 1 rfl) ?_
  refine lv_iload_n hx hb dX12_chimneyOpens_8 rfl (lv_at hl 2 rfl) ?_
  refine x_cVi (As := [.int x1, .int x2]) (rest := []) hM hG xml_X12_432 xwi_X12_plainOpens xws_X12_plainOpens xmt_0 (by decide) rfl h (fun S' v e => c_X12_plainOpens hM.2.2.2.2.2.2.1 e _) ⟨Nat.le_of_ble_eq_true rfl, Nat.le_of_ble_eq_true rfl⟩ rfl hl.1 rfl (Nat.le_of_ble_eq_true rfl) dX12_chimneyOpens_9 (fun S_3 v_4 H locs h hG => ?_)
  refine lv_iconst (v := (3 : Int32)) hx hb dX12_chimneyOpens_12 (by decide) ?_
  refine x_imul hM h dX12_chimneyOpens_13 (fun v_5 h => ?_)
  exact x_ri hM hG hr hlk rfl (k0 _ (Option.some.inj h).symm) dX12_chimneyOpens_14
set_option maxHeartbeats 4000000 in
set_option maxRecDepth 100000 in
theorem c_X12_chimneyOpens {l : Launch} {D : va_G} {cy : Nat → ClassId} {a z : Nat → Nat} (hI : xI xmb a) {S : xSt} {x1 : Int32} {x2 : Int32} {S' : xSt} {v' : Int32} (hf : f_X12_chimneyOpens S x1 x2 = some (S', v')) (sz : Nat) : Met l yX12_chimneyOpens (Cond.code yX12_chimneyOpens cX12_chimneyOpens 3 (some .int) :: xTB) ({ frames := 2, cells := 0, slots := 0, locals := 43 } : Room) (va_Pc [.ref (a 0), .int x1, .int x2] (xPre D cy xmb a z S sz)) (xQi D cy xmb a S' v' sz) 0 0 (xA xmb a sz) := by
  refine Met.ofW (cc := cX12_chimneyOpens) (maxL := 3) (ret := (some .int)) (by decide) rfl ?_
  intro p e s m args below meth c s₁ B hml hv
  obtain ⟨rfl, hsz, hP, hK, hE⟩ := hv
  subst hsz
  have hl := lv_entry ([.ref (a 0), .int x1, .int x2]) (n := 3) (Nat.le_of_ble_eq_true rfl)
  rw [lg_entry_eq]
  generalize (lg_sl ([.ref (a 0), .int x1, .int x2]) ++ List.replicate (3 - (lg_sl ([.ref (a 0), .int x1, .int x2])).length) Slot.unset).toArray = ls at hl ⊢
  have hl : lv_has ls 3 [(0, .ref (a 0)), (1, .int x1), (2, .int x2)] := hl
  exact w_X12_chimneyOpens_0 ⟨B.exec, B.bytes, hml, findClass_of_methodNamed B.named, fun w hw => atoms_spec (ws := Cond.code yX12_chimneyOpens cX12_chimneyOpens 3 (some .int) :: xTB) B.pre w (List.mem_cons_of_mem _ hw), hK, hI, hE⟩ B.returns B.notSynchronized hf (fun t0 e => e.symm) ⟨hP, va_S.rf⟩ (lv_sub hl [0, 1, 2] rfl)
set_option maxHeartbeats 4000000 in
set_option maxRecDepth 100000 in
theorem w_X12_opening_0 {x1 : Int32} {x2 : Int32} (hM : xM p c cX12_opening m s args RX12 4 D cy xmb a z) (hr : meth.sig.returnType = (some .int)) (hlk : meth.locks = false) {S' : xSt} {v' : Int32} {S : xSt} {q : (xSt × Int32)} (h : f_X12_opening_0 x1 x2 S = some q) (k0 : ∀ t0 : xSt × Int32, q = t0 → t0 = (S', v')) {H : Heap} {locs : List Loc} (hG : xG D cy xmb a S s H locs) {ls : Array Slot} (hl : lv_has ls 4 [(0, .ref (a 0)), (1, .int x1), (2, .int x2)]) : W p l e ({ frames := 4, cells := 0, slots := 0, locals := 87 } : Room) s m args below meth c H locs 0 0 (MQ below (xQi D cy xmb a S' v' s.heap.size) args s 0 0 (xA xmb a s.heap.size)) (F0 m 0 ls []) := by
  have hx := hM.1
  have hb := hM.2.1
  refine lv_aload_n hx hb dX12_opening_0 rfl (lv_at hl 0 rfl) ?_
  refine x_gr (r := 35) hM hG xfl_X12_120 xmt_0 (by decide) rfl dX12_opening_1 ?_
  refine lv_iload_n hx hb dX12_opening_4 rfl (lv_at hl 1 rfl) ?_
  refine x_iald hM hG xmt_35 h dX12_opening_5 (fun v_1 h => ?_)
  refine lv_iconst (v := (5 : Int32)) hx hb dX12_opening_6 (by decide) ?_
  refine x_icmp_ne (tgt := 32) hM h dX12_opening_7 (by decide) (fun c_2 h => ?_) (fun c_2 h => ?_)
  · refine lv_aload_n hx hb dX12_opening_32 rfl (lv_at hl 0 rfl) ?_
    refine x_gr (r := 35) hM hG xfl_X12_120 xmt_0 (by decide) rfl dX12_opening_33 ?_
    refine lv_iload_n hx hb dX12_opening_36 rfl (lv_at hl 1 rfl) ?_
    refine x_iald hM hG xmt_35 h dX12_opening_37 (fun v_3 h => ?_)
    refine lv_iconst (v := (3 : Int32)) hx hb dX12_opening_38 (by decide) ?_
    refine x_icmp_ne (tgt := 51) hM h dX12_opening_39 (by decide) (fun c_4 h => ?_) (fun c_4 h => ?_)
    · refine lv_aload_n hx hb dX12_opening_51 rfl (lv_at hl 0 rfl) ?_
      refine lv_iload_n hx hb dX12_opening_52 rfl (lv_at hl 1 rfl) ?_
      refine lv_iload_n hx hb dX12_opening_53 rfl (lv_at hl 2 rfl) ?_
      refine x_cVi (As := [.int x1, .int x2]) (rest := []) hM hG xml_X12_432 xwi_X12_plainOpens xws_X12_plainOpens xmt_0 (by decide) rfl h (fun S' v e => c_X12_plainOpens hM.2.2.2.2.2.2.1 e _) ⟨Nat.le_of_ble_eq_true rfl, Nat.le_of_ble_eq_true rfl⟩ rfl hl.1 rfl (Nat.le_of_ble_eq_true rfl) dX12_opening_54 (fun S_5 v_6 H locs h hG => ?_)
      exact x_ri hM hG hr hlk rfl (k0 _ (Option.some.inj h).symm) dX12_opening_57
    · refine lv_aload_n hx hb dX12_opening_42 rfl (lv_at hl 0 rfl) ?_
      refine lv_iload_n hx hb dX12_opening_43 rfl (lv_at hl 1 rfl) ?_
      refine lv_iload_n hx hb dX12_opening_44 rfl (lv_at hl 2 rfl) ?_
      refine x_cVi (As := [.int x1, .int x2]) (rest := []) hM hG xml_X12_435 xwi_X12_chimneyOpens xws_X12_chimneyOpens xmt_0 (by decide) rfl h (fun S' v e => c_X12_chimneyOpens hM.2.2.2.2.2.2.1 e _) ⟨Nat.le_of_ble_eq_true rfl, Nat.le_of_ble_eq_true rfl⟩ rfl hl.1 rfl (Nat.le_of_ble_eq_true rfl) dX12_opening_45 (fun S_7 v_8 H locs h hG => ?_)
      refine lv_goto (tgt := 57) hx hb dX12_opening_48 (by decide) ?_
      exact x_ri hM hG hr hlk rfl (k0 _ (Option.some.inj h).symm) dX12_opening_57
  · refine lv_aload_n hx hb dX12_opening_10 rfl (lv_at hl 0 rfl) ?_
    refine lv_bipush (v := (60 : Int32)) hx hb dX12_opening_11 (by decide) ?_
    refine x_cVv (As := [.int (60 : Int32)]) (rest := []) hM hG xml_X12_408 xwi_X12_ran xws_X12_ran xmt_0 (by decide) rfl h (fun S' v e => c_X12_ran hM.2.2.2.2.2.2.1 e _) ⟨Nat.le_of_ble_eq_true rfl, Nat.le_of_ble_eq_true rfl⟩ rfl hl.1 rfl (Nat.le_of_ble_eq_true rfl) dX12_opening_13 (fun S_9 v_10 H locs h hG => ?_)
    refine lv_aload_n hx hb dX12_opening_16 rfl (lv_at hl 0 rfl) ?_
    refine lv_iload_n hx hb dX12_opening_17 rfl (lv_at hl 1 rfl) ?_
    refine lv_iload_n hx hb dX12_opening_18 rfl (lv_at hl 2 rfl) ?_
    refine x_cVi (As := [.int x1, .int x2]) (rest := []) hM hG xml_X12_435 xwi_X12_chimneyOpens xws_X12_chimneyOpens xmt_0 (by decide) rfl h (fun S' v e => c_X12_chimneyOpens hM.2.2.2.2.2.2.1 e _) ⟨Nat.le_of_ble_eq_true rfl, Nat.le_of_ble_eq_true rfl⟩ rfl hl.1 rfl (Nat.le_of_ble_eq_true rfl) dX12_opening_19 (fun S_11 v_12 H locs h hG => ?_)
    refine lv_istore_n (lv' := [(3, .int v_12), (0, .ref (a 0)), (1, .int x1), (2, .int x2)]) hx hb dX12_opening_22 rfl hl (by decide) rfl (fun ls hl => ?_)
    refine lv_iload_n hx hb dX12_opening_23 rfl (lv_at hl 0 rfl) ?_
    refine lv_aload_n hx hb dX12_opening_24 rfl (lv_at hl 1 rfl) ?_
    refine lv_iload_n hx hb dX12_opening_25 rfl (lv_at hl 2 rfl) ?_
    refine lv_iconst (v := (2 : Int32)) hx hb dX12_opening_26 (by decide) ?_
    refine x_cVi (As := [.int x1, .int (2 : Int32)]) (rest := [.int v_12]) hM hG xml_X12_420 xwi_X12_reading xws_X12_reading xmt_0 (by decide) rfl h (fun S' v e => c_X12_reading hM.2.2.2.2.2.2.1 e _) ⟨Nat.le_of_ble_eq_true rfl, Nat.le_of_ble_eq_true rfl⟩ rfl hl.1 rfl (Nat.le_of_ble_eq_true rfl) dX12_opening_27 (fun S_13 v_14 H locs h hG => ?_)
    refine x_isub hM h dX12_opening_30 (fun v_15 h => ?_)
    exact x_ri hM hG hr hlk rfl (k0 _ (Option.some.inj h).symm) dX12_opening_31
set_option maxHeartbeats 4000000 in
set_option maxRecDepth 100000 in
theorem c_X12_opening {l : Launch} {D : va_G} {cy : Nat → ClassId} {a z : Nat → Nat} (hI : xI xmb a) {S : xSt} {x1 : Int32} {x2 : Int32} {S' : xSt} {v' : Int32} (hf : f_X12_opening S x1 x2 = some (S', v')) (sz : Nat) : Met l yX12_opening (Cond.code yX12_opening cX12_opening 4 (some .int) :: xTB) ({ frames := 4, cells := 0, slots := 0, locals := 87 } : Room) (va_Pc [.ref (a 0), .int x1, .int x2] (xPre D cy xmb a z S sz)) (xQi D cy xmb a S' v' sz) 0 0 (xA xmb a sz) := by
  refine Met.ofW (cc := cX12_opening) (maxL := 4) (ret := (some .int)) (by decide) rfl ?_
  intro p e s m args below meth c s₁ B hml hv
  obtain ⟨rfl, hsz, hP, hK, hE⟩ := hv
  subst hsz
  have hl := lv_entry ([.ref (a 0), .int x1, .int x2]) (n := 4) (Nat.le_of_ble_eq_true rfl)
  rw [lg_entry_eq]
  generalize (lg_sl ([.ref (a 0), .int x1, .int x2]) ++ List.replicate (4 - (lg_sl ([.ref (a 0), .int x1, .int x2])).length) Slot.unset).toArray = ls at hl ⊢
  have hl : lv_has ls 4 [(0, .ref (a 0)), (1, .int x1), (2, .int x2)] := hl
  exact w_X12_opening_0 ⟨B.exec, B.bytes, hml, findClass_of_methodNamed B.named, fun w hw => atoms_spec (ws := Cond.code yX12_opening cX12_opening 4 (some .int) :: xTB) B.pre w (List.mem_cons_of_mem _ hw), hK, hI, hE⟩ B.returns B.notSynchronized hf (fun t0 e => e.symm) ⟨hP, va_S.rf⟩ (lv_sub hl [0, 1, 2] rfl)
set_option maxHeartbeats 4000000 in
set_option maxRecDepth 100000 in
theorem w_X12_heating_0 {x1 : Int32} {x2 : Int32} (hM : xM p c cX12_heating m s args RX12 4 D cy xmb a z) (hr : meth.sig.returnType = (some .int)) (hlk : meth.locks = false) {S' : xSt} {v' : Int32} {S : xSt} {q : (xSt × Int32)} (h : f_X12_heating_0 x1 x2 S = some q) (k0 : ∀ t0 : xSt × Int32, q = t0 → t0 = (S', v')) {H : Heap} {locs : List Loc} (hG : xG D cy xmb a S s H locs) {ls : Array Slot} (hl : lv_has ls 4 [(0, .ref (a 0)), (1, .int x1), (2, .int x2)]) : W p l e ({ frames := 6, cells := 0, slots := 0, locals := 131 } : Room) s m args below meth c H locs 0 0 (MQ below (xQi D cy xmb a S' v' s.heap.size) args s 0 0 (xA xmb a s.heap.size)) (F0 m 0 ls []) := by
  have hx := hM.1
  have hb := hM.2.1
  refine lv_aload_n hx hb dX12_heating_0 rfl (lv_at hl 0 rfl) ?_
  refine x_gr (r := 35) hM hG xfl_X12_120 xmt_0 (by decide) rfl dX12_heating_1 ?_
  refine lv_iload_n hx hb dX12_heating_4 rfl (lv_at hl 1 rfl) ?_
  refine x_iald hM hG xmt_35 h dX12_heating_5 (fun v_1 h => ?_)
  refine lv_iconst (v := (3 : Int32)) hx hb dX12_heating_6 (by decide) ?_
  refine x_cSi (As := [.int v_1, .int (3 : Int32)]) (rest := []) hM hG xml_X12_414 xwt_X12_isUnder h (fun S' v e => c_X12_isUnder hM.2.2.2.2.2.2.1 e _) ⟨Nat.le_of_ble_eq_true rfl, Nat.le_of_ble_eq_true rfl⟩ rfl hl.1 rfl (Nat.le_of_ble_eq_true rfl) dX12_heating_7 (fun S_2 v_3 H locs h hG => ?_)
  refine x_if_eq (tgt := 28) hM h dX12_heating_10 (by decide) (fun c_4 h => ?_) (fun c_4 h => ?_)
  · refine lv_aload_n hx hb dX12_heating_28 rfl (lv_at hl 0 rfl) ?_
    refine x_gr (r := 35) hM hG xfl_X12_120 xmt_0 (by decide) rfl dX12_heating_29 ?_
    refine lv_iload_n hx hb dX12_heating_32 rfl (lv_at hl 1 rfl) ?_
    refine x_iald hM hG xmt_35 h dX12_heating_33 (fun v_5 h => ?_)
    refine lv_bipush (v := (7 : Int32)) hx hb dX12_heating_34 (by decide) ?_
    refine x_icmp_ne (tgt := 61) hM h dX12_heating_36 (by decide) (fun c_6 h => ?_) (fun c_6 h => ?_)
    · refine lv_aload_n hx hb dX12_heating_61 rfl (lv_at hl 0 rfl) ?_
      refine x_gr (r := 35) hM hG xfl_X12_120 xmt_0 (by decide) rfl dX12_heating_62 ?_
      refine lv_iload_n hx hb dX12_heating_65 rfl (lv_at hl 1 rfl) ?_
      refine x_iald hM hG xmt_35 h dX12_heating_66 (fun v_7 h => ?_)
      refine lv_iconst (v := (2 : Int32)) hx hb dX12_heating_67 (by decide) ?_
      refine x_icmp_ne (tgt := 80) hM h dX12_heating_68 (by decide) (fun c_8 h => ?_) (fun c_8 h => ?_)
      · refine lv_aload_n hx hb dX12_heating_80 rfl (lv_at hl 0 rfl) ?_
        refine lv_iload_n hx hb dX12_heating_81 rfl (lv_at hl 1 rfl) ?_
        refine lv_iload_n hx hb dX12_heating_82 rfl (lv_at hl 2 rfl) ?_
        refine x_cVi (As := [.int x1, .int x2]) (rest := []) hM hG xml_X12_423 xwi_X12_plainHeats xws_X12_plainHeats xmt_0 (by decide) rfl h (fun S' v e => c_X12_plainHeats hM.2.2.2.2.2.2.1 e _) ⟨Nat.le_of_ble_eq_true rfl, Nat.le_of_ble_eq_true rfl⟩ rfl hl.1 rfl (Nat.le_of_ble_eq_true rfl) dX12_heating_83 (fun S_9 v_10 H locs h hG => ?_)
        exact x_ri hM hG hr hlk rfl (k0 _ (Option.some.inj h).symm) dX12_heating_86
      · refine lv_aload_n hx hb dX12_heating_71 rfl (lv_at hl 0 rfl) ?_
        refine lv_iload_n hx hb dX12_heating_72 rfl (lv_at hl 1 rfl) ?_
        refine lv_iload_n hx hb dX12_heating_73 rfl (lv_at hl 2 rfl) ?_
        refine x_cVi (As := [.int x1, .int x2]) (rest := []) hM hG xml_X12_426 xwi_X12_smokeHeats xws_X12_smokeHeats xmt_0 (by decide) rfl h (fun S' v e => c_X12_smokeHeats hM.2.2.2.2.2.2.1 e _) ⟨Nat.le_of_ble_eq_true rfl, Nat.le_of_ble_eq_true rfl⟩ rfl hl.1 rfl (Nat.le_of_ble_eq_true rfl) dX12_heating_74 (fun S_11 v_12 H locs h hG => ?_)
        refine lv_goto (tgt := 86) hx hb dX12_heating_77 (by decide) ?_
        exact x_ri hM hG hr hlk rfl (k0 _ (Option.some.inj h).symm) dX12_heating_86
    · refine lv_aload_n hx hb dX12_heating_39 rfl (lv_at hl 0 rfl) ?_
      refine lv_bipush (v := (80 : Int32)) hx hb dX12_heating_40 (by decide) ?_
      refine x_cVv (As := [.int (80 : Int32)]) (rest := []) hM hG xml_X12_408 xwi_X12_ran xws_X12_ran xmt_0 (by decide) rfl h (fun S' v e => c_X12_ran hM.2.2.2.2.2.2.1 e _) ⟨Nat.le_of_ble_eq_true rfl, Nat.le_of_ble_eq_true rfl⟩ rfl hl.1 rfl (Nat.le_of_ble_eq_true rfl) dX12_heating_42 (fun S_13 v_14 H locs h hG => ?_)
      refine lv_aload_n hx hb dX12_heating_45 rfl (lv_at hl 0 rfl) ?_
      refine lv_iload_n hx hb dX12_heating_46 rfl (lv_at hl 1 rfl) ?_
      refine lv_iload_n hx hb dX12_heating_47 rfl (lv_at hl 2 rfl) ?_
      refine x_cVi (As := [.int x1, .int x2]) (rest := []) hM hG xml_X12_423 xwi_X12_plainHeats xws_X12_plainHeats xmt_0 (by decide) rfl h (fun S' v e => c_X12_plainHeats hM.2.2.2.2.2.2.1 e _) ⟨Nat.le_of_ble_eq_true rfl, Nat.le_of_ble_eq_true rfl⟩ rfl hl.1 rfl (Nat.le_of_ble_eq_true rfl) dX12_heating_48 (fun S_15 v_16 H locs h hG => ?_)
      refine lv_istore_n (lv' := [(3, .int v_16), (0, .ref (a 0)), (1, .int x1), (2, .int x2)]) hx hb dX12_heating_51 rfl hl (by decide) rfl (fun ls hl => ?_)
      refine lv_iload_n hx hb dX12_heating_52 rfl (lv_at hl 0 rfl) ?_
      refine lv_aload_n hx hb dX12_heating_53 rfl (lv_at hl 1 rfl) ?_
      refine lv_iload_n hx hb dX12_heating_54 rfl (lv_at hl 2 rfl) ?_
      refine lv_iconst (v := (2 : Int32)) hx hb dX12_heating_55 (by decide) ?_
      refine x_cVi (As := [.int x1, .int (2 : Int32)]) (rest := [.int v_16]) hM hG xml_X12_429 xwi_X12_opening xws_X12_opening xmt_0 (by decide) rfl h (fun S' v e => c_X12_opening hM.2.2.2.2.2.2.1 e _) ⟨Nat.le_of_ble_eq_true rfl, Nat.le_of_ble_eq_true rfl⟩ rfl hl.1 rfl (Nat.le_of_ble_eq_true rfl) dX12_heating_56 (fun S_17 v_18 H locs h hG => ?_)
      refine x_iadd hM h dX12_heating_59 (fun v_19 h => ?_)
      exact x_ri hM hG hr hlk rfl (k0 _ (Option.some.inj h).symm) dX12_heating_60
  · refine lv_aload_n hx hb dX12_heating_13 rfl (lv_at hl 0 rfl) ?_
    refine lv_bipush (v := (41 : Int32)) hx hb dX12_heating_14 (by decide) ?_
    refine x_cVv (As := [.int (41 : Int32)]) (rest := []) hM hG xml_X12_408 xwi_X12_ran xws_X12_ran xmt_0 (by decide) rfl h (fun S' v e => c_X12_ran hM.2.2.2.2.2.2.1 e _) ⟨Nat.le_of_ble_eq_true rfl, Nat.le_of_ble_eq_true rfl⟩ rfl hl.1 rfl (Nat.le_of_ble_eq_true rfl) dX12_heating_16 (fun S_20 v_21 H locs h hG => ?_)
    refine lv_aload_n hx hb dX12_heating_19 rfl (lv_at hl 0 rfl) ?_
    refine lv_iload_n hx hb dX12_heating_20 rfl (lv_at hl 1 rfl) ?_
    refine lv_iload_n hx hb dX12_heating_21 rfl (lv_at hl 2 rfl) ?_
    refine lv_iconst (v := (1 : Int32)) hx hb dX12_heating_22 (by decide) ?_
    refine x_iadd hM h dX12_heating_23 (fun v_22 h => ?_)
    refine x_cVi (As := [.int x1, .int v_22]) (rest := []) hM hG xml_X12_426 xwi_X12_smokeHeats xws_X12_smokeHeats xmt_0 (by decide) rfl h (fun S' v e => c_X12_smokeHeats hM.2.2.2.2.2.2.1 e _) ⟨Nat.le_of_ble_eq_true rfl, Nat.le_of_ble_eq_true rfl⟩ rfl hl.1 rfl (Nat.le_of_ble_eq_true rfl) dX12_heating_24 (fun S_23 v_24 H locs h hG => ?_)
    exact x_ri hM hG hr hlk rfl (k0 _ (Option.some.inj h).symm) dX12_heating_27
set_option maxHeartbeats 4000000 in
set_option maxRecDepth 100000 in
theorem c_X12_heating {l : Launch} {D : va_G} {cy : Nat → ClassId} {a z : Nat → Nat} (hI : xI xmb a) {S : xSt} {x1 : Int32} {x2 : Int32} {S' : xSt} {v' : Int32} (hf : f_X12_heating S x1 x2 = some (S', v')) (sz : Nat) : Met l yX12_heating (Cond.code yX12_heating cX12_heating 4 (some .int) :: xTB) ({ frames := 6, cells := 0, slots := 0, locals := 131 } : Room) (va_Pc [.ref (a 0), .int x1, .int x2] (xPre D cy xmb a z S sz)) (xQi D cy xmb a S' v' sz) 0 0 (xA xmb a sz) := by
  refine Met.ofW (cc := cX12_heating) (maxL := 4) (ret := (some .int)) (by decide) rfl ?_
  intro p e s m args below meth c s₁ B hml hv
  obtain ⟨rfl, hsz, hP, hK, hE⟩ := hv
  subst hsz
  have hl := lv_entry ([.ref (a 0), .int x1, .int x2]) (n := 4) (Nat.le_of_ble_eq_true rfl)
  rw [lg_entry_eq]
  generalize (lg_sl ([.ref (a 0), .int x1, .int x2]) ++ List.replicate (4 - (lg_sl ([.ref (a 0), .int x1, .int x2])).length) Slot.unset).toArray = ls at hl ⊢
  have hl : lv_has ls 4 [(0, .ref (a 0)), (1, .int x1), (2, .int x2)] := hl
  exact w_X12_heating_0 ⟨B.exec, B.bytes, hml, findClass_of_methodNamed B.named, fun w hw => atoms_spec (ws := Cond.code yX12_heating cX12_heating 4 (some .int) :: xTB) B.pre w (List.mem_cons_of_mem _ hw), hK, hI, hE⟩ B.returns B.notSynchronized hf (fun t0 e => e.symm) ⟨hP, va_S.rf⟩ (lv_sub hl [0, 1, 2] rfl)
set_option maxHeartbeats 4000000 in
set_option maxRecDepth 100000 in
theorem w_X12_plainTells_0 {x1 : Int32} {x2 : Int32} (hM : xM p c cX12_plainTells m s args RX12 4 D cy xmb a z) (hr : meth.sig.returnType = (some .int)) (hlk : meth.locks = false) {S' : xSt} {v' : Int32} {S : xSt} {q : (xSt × Int32)} (h : f_X12_plainTells_0 x1 x2 S = some q) (k0 : ∀ t0 : xSt × Int32, q = t0 → t0 = (S', v')) {H : Heap} {locs : List Loc} (hG : xG D cy xmb a S s H locs) {ls : Array Slot} (hl : lv_has ls 4 [(0, .ref (a 0)), (1, .int x1), (2, .int x2)]) : W p l e ({ frames := 7, cells := 0, slots := 0, locals := 154 } : Room) s m args below meth c H locs 0 0 (MQ below (xQi D cy xmb a S' v' s.heap.size) args s 0 0 (xA xmb a s.heap.size)) (F0 m 0 ls []) := by
  have hx := hM.1
  have hb := hM.2.1
  refine lv_aload_n hx hb dX12_plainTells_0 rfl (lv_at hl 0 rfl) ?_
  refine lv_iconst (v := (2 : Int32)) hx hb dX12_plainTells_1 (by decide) ?_
  refine x_cVv (As := [.int (2 : Int32)]) (rest := []) hM hG xml_X12_408 xwi_X12_ran xws_X12_ran xmt_0 (by decide) rfl h (fun S' v e => c_X12_ran hM.2.2.2.2.2.2.1 e _) ⟨Nat.le_of_ble_eq_true rfl, Nat.le_of_ble_eq_true rfl⟩ rfl hl.1 rfl (Nat.le_of_ble_eq_true rfl) dX12_plainTells_2 (fun S_1 v_2 H locs h hG => ?_)
  refine lv_aload_n hx hb dX12_plainTells_5 rfl (lv_at hl 0 rfl) ?_
  refine lv_iload_n hx hb dX12_plainTells_6 rfl (lv_at hl 1 rfl) ?_
  refine lv_iload_n hx hb dX12_plainTells_7 rfl (lv_at hl 2 rfl) ?_
  refine x_cVi (As := [.int x1, .int x2]) (rest := []) hM hG xml_X12_438 xwi_X12_heating xws_X12_heating xmt_0 (by decide) rfl h (fun S' v e => c_X12_heating hM.2.2.2.2.2.2.1 e _) ⟨Nat.le_of_ble_eq_true rfl, Nat.le_of_ble_eq_true rfl⟩ rfl hl.1 rfl (Nat.le_of_ble_eq_true rfl) dX12_plainTells_8 (fun S_3 v_4 H locs h hG => ?_)
  refine lv_istore_n (lv' := [(3, .int v_4), (0, .ref (a 0)), (1, .int x1), (2, .int x2)]) hx hb dX12_plainTells_11 rfl hl (by decide) rfl (fun ls hl => ?_)
  refine lv_iload_n hx hb dX12_plainTells_12 rfl (lv_at hl 0 rfl) ?_
  refine lv_aload_n hx hb dX12_plainTells_13 rfl (lv_at hl 1 rfl) ?_
  refine lv_iload_n hx hb dX12_plainTells_14 rfl (lv_at hl 2 rfl) ?_
  refine lv_iconst (v := (1 : Int32)) hx hb dX12_plainTells_15 (by decide) ?_
  refine x_cVi (As := [.int x1, .int (1 : Int32)]) (rest := [.int v_4]) hM hG xml_X12_429 xwi_X12_opening xws_X12_opening xmt_0 (by decide) rfl h (fun S' v e => c_X12_opening hM.2.2.2.2.2.2.1 e _) ⟨Nat.le_of_ble_eq_true rfl, Nat.le_of_ble_eq_true rfl⟩ rfl hl.1 rfl (Nat.le_of_ble_eq_true rfl) dX12_plainTells_16 (fun S_5 v_6 H locs h hG => ?_)
  refine x_isub hM h dX12_plainTells_19 (fun v_7 h => ?_)
  exact x_ri hM hG hr hlk rfl (k0 _ (Option.some.inj h).symm) dX12_plainTells_20
set_option maxHeartbeats 4000000 in
set_option maxRecDepth 100000 in
theorem c_X12_plainTells {l : Launch} {D : va_G} {cy : Nat → ClassId} {a z : Nat → Nat} (hI : xI xmb a) {S : xSt} {x1 : Int32} {x2 : Int32} {S' : xSt} {v' : Int32} (hf : f_X12_plainTells S x1 x2 = some (S', v')) (sz : Nat) : Met l yX12_plainTells (Cond.code yX12_plainTells cX12_plainTells 4 (some .int) :: xTB) ({ frames := 7, cells := 0, slots := 0, locals := 154 } : Room) (va_Pc [.ref (a 0), .int x1, .int x2] (xPre D cy xmb a z S sz)) (xQi D cy xmb a S' v' sz) 0 0 (xA xmb a sz) := by
  refine Met.ofW (cc := cX12_plainTells) (maxL := 4) (ret := (some .int)) (by decide) rfl ?_
  intro p e s m args below meth c s₁ B hml hv
  obtain ⟨rfl, hsz, hP, hK, hE⟩ := hv
  subst hsz
  have hl := lv_entry ([.ref (a 0), .int x1, .int x2]) (n := 4) (Nat.le_of_ble_eq_true rfl)
  rw [lg_entry_eq]
  generalize (lg_sl ([.ref (a 0), .int x1, .int x2]) ++ List.replicate (4 - (lg_sl ([.ref (a 0), .int x1, .int x2])).length) Slot.unset).toArray = ls at hl ⊢
  have hl : lv_has ls 4 [(0, .ref (a 0)), (1, .int x1), (2, .int x2)] := hl
  exact w_X12_plainTells_0 ⟨B.exec, B.bytes, hml, findClass_of_methodNamed B.named, fun w hw => atoms_spec (ws := Cond.code yX12_plainTells cX12_plainTells 4 (some .int) :: xTB) B.pre w (List.mem_cons_of_mem _ hw), hK, hI, hE⟩ B.returns B.notSynchronized hf (fun t0 e => e.symm) ⟨hP, va_S.rf⟩ (lv_sub hl [0, 1, 2] rfl)
set_option maxHeartbeats 4000000 in
set_option maxRecDepth 100000 in
theorem w_X12_telling_0 {x1 : Int32} {x2 : Int32} (hM : xM p c cX12_telling m s args RX12 3 D cy xmb a z) (hr : meth.sig.returnType = (some .int)) (hlk : meth.locks = false) {S' : xSt} {v' : Int32} {S : xSt} {q : (xSt × Int32)} (h : f_X12_telling_0 x1 x2 S = some q) (k0 : ∀ t0 : xSt × Int32, q = t0 → t0 = (S', v')) {H : Heap} {locs : List Loc} (hG : xG D cy xmb a S s H locs) {ls : Array Slot} (hl : lv_has ls 3 [(0, .ref (a 0)), (1, .int x1), (2, .int x2)]) : W p l e ({ frames := 8, cells := 0, slots := 0, locals := 177 } : Room) s m args below meth c H locs 0 0 (MQ below (xQi D cy xmb a S' v' s.heap.size) args s 0 0 (xA xmb a s.heap.size)) (F0 m 0 ls []) := by
  have hx := hM.1
  have hb := hM.2.1
  refine lv_aload_n hx hb dX12_telling_0 rfl (lv_at hl 0 rfl) ?_
  refine x_gr (r := 35) hM hG xfl_X12_120 xmt_0 (by decide) rfl dX12_telling_1 ?_
  refine lv_iload_n hx hb dX12_telling_4 rfl (lv_at hl 1 rfl) ?_
  refine x_iald hM hG xmt_35 h dX12_telling_5 (fun v_1 h => ?_)
  refine lv_iconst (v := (4 : Int32)) hx hb dX12_telling_6 (by decide) ?_
  refine x_icmp_ne (tgt := 25) hM h dX12_telling_7 (by decide) (fun c_2 h => ?_) (fun c_2 h => ?_)
  · refine lv_aload_n hx hb dX12_telling_25 rfl (lv_at hl 0 rfl) ?_
    refine x_gr (r := 35) hM hG xfl_X12_120 xmt_0 (by decide) rfl dX12_telling_26 ?_
    refine lv_iload_n hx hb dX12_telling_29 rfl (lv_at hl 1 rfl) ?_
    refine x_iald hM hG xmt_35 h dX12_telling_30 (fun v_3 h => ?_)
    refine lv_iconst (v := (5 : Int32)) hx hb dX12_telling_31 (by decide) ?_
    refine x_icmp_ne (tgt := 50) hM h dX12_telling_32 (by decide) (fun c_4 h => ?_) (fun c_4 h => ?_)
    · refine lv_aload_n hx hb dX12_telling_50 rfl (lv_at hl 0 rfl) ?_
      refine lv_iload_n hx hb dX12_telling_51 rfl (lv_at hl 1 rfl) ?_
      refine lv_iload_n hx hb dX12_telling_52 rfl (lv_at hl 2 rfl) ?_
      refine x_cVi (As := [.int x1, .int x2]) (rest := []) hM hG xml_X12_441 xwi_X12_plainTells xws_X12_plainTells xmt_0 (by decide) rfl h (fun S' v e => c_X12_plainTells hM.2.2.2.2.2.2.1 e _) ⟨Nat.le_of_ble_eq_true rfl, Nat.le_of_ble_eq_true rfl⟩ rfl hl.1 rfl (Nat.le_of_ble_eq_true rfl) dX12_telling_53 (fun S_5 v_6 H locs h hG => ?_)
      exact x_ri hM hG hr hlk rfl (k0 _ (Option.some.inj h).symm) dX12_telling_56
    · refine lv_aload_n hx hb dX12_telling_35 rfl (lv_at hl 0 rfl) ?_
      refine lv_bipush (v := (61 : Int32)) hx hb dX12_telling_36 (by decide) ?_
      refine x_cVv (As := [.int (61 : Int32)]) (rest := []) hM hG xml_X12_408 xwi_X12_ran xws_X12_ran xmt_0 (by decide) rfl h (fun S' v e => c_X12_ran hM.2.2.2.2.2.2.1 e _) ⟨Nat.le_of_ble_eq_true rfl, Nat.le_of_ble_eq_true rfl⟩ rfl hl.1 rfl (Nat.le_of_ble_eq_true rfl) dX12_telling_38 (fun S_7 v_8 H locs h hG => ?_)
      refine lv_aload_n hx hb dX12_telling_41 rfl (lv_at hl 0 rfl) ?_
      refine lv_iload_n hx hb dX12_telling_42 rfl (lv_at hl 1 rfl) ?_
      refine lv_iload_n hx hb dX12_telling_43 rfl (lv_at hl 2 rfl) ?_
      refine x_cVi (As := [.int x1, .int x2]) (rest := []) hM hG xml_X12_441 xwi_X12_plainTells xws_X12_plainTells xmt_0 (by decide) rfl h (fun S' v e => c_X12_plainTells hM.2.2.2.2.2.2.1 e _) ⟨Nat.le_of_ble_eq_true rfl, Nat.le_of_ble_eq_true rfl⟩ rfl hl.1 rfl (Nat.le_of_ble_eq_true rfl) dX12_telling_44 (fun S_9 v_10 H locs h hG => ?_)
      refine lv_iconst (v := (1 : Int32)) hx hb dX12_telling_47 (by decide) ?_
      refine x_iadd hM h dX12_telling_48 (fun v_11 h => ?_)
      exact x_ri hM hG hr hlk rfl (k0 _ (Option.some.inj h).symm) dX12_telling_49
  · refine lv_aload_n hx hb dX12_telling_10 rfl (lv_at hl 0 rfl) ?_
    refine lv_bipush (v := (50 : Int32)) hx hb dX12_telling_11 (by decide) ?_
    refine x_cVv (As := [.int (50 : Int32)]) (rest := []) hM hG xml_X12_408 xwi_X12_ran xws_X12_ran xmt_0 (by decide) rfl h (fun S' v e => c_X12_ran hM.2.2.2.2.2.2.1 e _) ⟨Nat.le_of_ble_eq_true rfl, Nat.le_of_ble_eq_true rfl⟩ rfl hl.1 rfl (Nat.le_of_ble_eq_true rfl) dX12_telling_13 (fun S_12 v_13 H locs h hG => ?_)
    refine lv_aload_n hx hb dX12_telling_16 rfl (lv_at hl 0 rfl) ?_
    refine lv_iload_n hx hb dX12_telling_17 rfl (lv_at hl 1 rfl) ?_
    refine lv_iload_n hx hb dX12_telling_18 rfl (lv_at hl 2 rfl) ?_
    refine x_cVi (As := [.int x1, .int x2]) (rest := []) hM hG xml_X12_441 xwi_X12_plainTells xws_X12_plainTells xmt_0 (by decide) rfl h (fun S' v e => c_X12_plainTells hM.2.2.2.2.2.2.1 e _) ⟨Nat.le_of_ble_eq_true rfl, Nat.le_of_ble_eq_true rfl⟩ rfl hl.1 rfl (Nat.le_of_ble_eq_true rfl) dX12_telling_19 (fun S_14 v_15 H locs h hG => ?_)
    refine lv_iconst (v := (5 : Int32)) hx hb dX12_telling_22 (by decide) ?_
    refine x_ixor hM h dX12_telling_23 (fun v_16 h => ?_)
    exact x_ri hM hG hr hlk rfl (k0 _ (Option.some.inj h).symm) dX12_telling_24
set_option maxHeartbeats 4000000 in
set_option maxRecDepth 100000 in
theorem c_X12_telling {l : Launch} {D : va_G} {cy : Nat → ClassId} {a z : Nat → Nat} (hI : xI xmb a) {S : xSt} {x1 : Int32} {x2 : Int32} {S' : xSt} {v' : Int32} (hf : f_X12_telling S x1 x2 = some (S', v')) (sz : Nat) : Met l yX12_telling (Cond.code yX12_telling cX12_telling 3 (some .int) :: xTB) ({ frames := 8, cells := 0, slots := 0, locals := 177 } : Room) (va_Pc [.ref (a 0), .int x1, .int x2] (xPre D cy xmb a z S sz)) (xQi D cy xmb a S' v' sz) 0 0 (xA xmb a sz) := by
  refine Met.ofW (cc := cX12_telling) (maxL := 3) (ret := (some .int)) (by decide) rfl ?_
  intro p e s m args below meth c s₁ B hml hv
  obtain ⟨rfl, hsz, hP, hK, hE⟩ := hv
  subst hsz
  have hl := lv_entry ([.ref (a 0), .int x1, .int x2]) (n := 3) (Nat.le_of_ble_eq_true rfl)
  rw [lg_entry_eq]
  generalize (lg_sl ([.ref (a 0), .int x1, .int x2]) ++ List.replicate (3 - (lg_sl ([.ref (a 0), .int x1, .int x2])).length) Slot.unset).toArray = ls at hl ⊢
  have hl : lv_has ls 3 [(0, .ref (a 0)), (1, .int x1), (2, .int x2)] := hl
  exact w_X12_telling_0 ⟨B.exec, B.bytes, hml, findClass_of_methodNamed B.named, fun w hw => atoms_spec (ws := Cond.code yX12_telling cX12_telling 3 (some .int) :: xTB) B.pre w (List.mem_cons_of_mem _ hw), hK, hI, hE⟩ B.returns B.notSynchronized hf (fun t0 e => e.symm) ⟨hP, va_S.rf⟩ (lv_sub hl [0, 1, 2] rfl)
set_option maxHeartbeats 4000000 in
set_option maxRecDepth 100000 in
theorem w_X12_act_0 {x1 : Int32} {x2 : Int32} {x3 : Int32} (hM : xM p c cX12_act m s args RX12 4 D cy xmb a z) (hr : meth.sig.returnType = (some .int)) (hlk : meth.locks = false) {S' : xSt} {v' : Int32} {S : xSt} {q : (xSt × Int32)} (h : f_X12_act_0 x1 x2 x3 S = some q) (k0 : ∀ t0 : xSt × Int32, q = t0 → t0 = (S', v')) {H : Heap} {locs : List Loc} (hG : xG D cy xmb a S s H locs) {ls : Array Slot} (hl : lv_has ls 4 [(0, .ref (a 0)), (1, .int x1), (2, .int x2), (3, .int x3)]) : W p l e ({ frames := 9, cells := 0, slots := 0, locals := 199 } : Room) s m args below meth c H locs 0 0 (MQ below (xQi D cy xmb a S' v' s.heap.size) args s 0 0 (xA xmb a s.heap.size)) (F0 m 0 ls []) := by
  have hx := hM.1
  have hb := hM.2.1
  refine lv_aload_n hx hb dX12_act_0 rfl (lv_at hl 0 rfl) ?_
  refine lv_iconst (v := (0 : Int32)) hx hb dX12_act_1 (by decide) ?_
  refine x_pi hM hG xfl_X12_405 xfp_X12_55 xmt_0 (by decide) rfl rfl rfl h dX12_act_2 (fun S_1 H locs h hG => ?_)
  refine lv_aload_n hx hb dX12_act_5 rfl (lv_at hl 0 rfl) ?_
  refine lv_iload_n hx hb dX12_act_6 rfl (lv_at hl 1 rfl) ?_
  refine x_cVi (As := [.int x1]) (rest := []) hM hG xml_X12_444 xwi_X12_isBody xws_X12_isBody xmt_0 (by decide) rfl h (fun S' v e => c_X12_isBody hM.2.2.2.2.2.2.1 e _) ⟨Nat.le_of_ble_eq_true rfl, Nat.le_of_ble_eq_true rfl⟩ rfl hl.1 rfl (Nat.le_of_ble_eq_true rfl) dX12_act_7 (fun S_2 v_3 H locs h hG => ?_)
  refine x_if_eq (tgt := 22) hM h dX12_act_10 (by decide) (fun c_4 h => ?_) (fun c_4 h => ?_)
  · refine lv_iconst (v := (0 : Int32)) hx hb dX12_act_22 (by decide) ?_
    exact x_ri hM hG hr hlk rfl (k0 _ (Option.some.inj h).symm) dX12_act_23
  · refine lv_iload_n hx hb dX12_act_13 rfl (lv_at hl 2 rfl) ?_
    refine lv_iconst (v := (0 : Int32)) hx hb dX12_act_14 (by decide) ?_
    refine lv_iconst (v := (3 : Int32)) hx hb dX12_act_15 (by decide) ?_
    refine x_cSi (As := [.int x2, .int (0 : Int32), .int (3 : Int32)]) (rest := []) hM hG xml_X12_142 xwt_X12_in h (fun S' v e => c_X12_in hM.2.2.2.2.2.2.1 e _) ⟨Nat.le_of_ble_eq_true rfl, Nat.le_of_ble_eq_true rfl⟩ rfl hl.1 rfl (Nat.le_of_ble_eq_true rfl) dX12_act_16 (fun S_5 v_6 H locs h hG => ?_)
    refine x_if_ne (tgt := 24) hM h dX12_act_19 (by decide) (fun c_7 h => ?_) (fun c_7 h => ?_)
    · refine lv_iload_n hx hb dX12_act_24 rfl (lv_at hl 2 rfl) ?_
      refine x_if_ne (tgt := 37) hM h dX12_act_25 (by decide) (fun c_8 h => ?_) (fun c_8 h => ?_)
      · refine lv_iload_n hx hb dX12_act_37 rfl (lv_at hl 2 rfl) ?_
        refine lv_iconst (v := (1 : Int32)) hx hb dX12_act_38 (by decide) ?_
        refine x_icmp_ne (tgt := 51) hM h dX12_act_39 (by decide) (fun c_9 h => ?_) (fun c_9 h => ?_)
        · refine lv_iload_n hx hb dX12_act_51 rfl (lv_at hl 2 rfl) ?_
          refine lv_iconst (v := (2 : Int32)) hx hb dX12_act_52 (by decide) ?_
          refine x_icmp_ne (tgt := 65) hM h dX12_act_53 (by decide) (fun c_10 h => ?_) (fun c_10 h => ?_)
          · refine lv_aload_n hx hb dX12_act_65 rfl (lv_at hl 0 rfl) ?_
            refine lv_iload_n hx hb dX12_act_66 rfl (lv_at hl 1 rfl) ?_
            refine lv_iload_n hx hb dX12_act_67 rfl (lv_at hl 3 rfl) ?_
            refine x_cVi (As := [.int x1, .int x3]) (rest := []) hM hG xml_X12_447 xwi_X12_telling xws_X12_telling xmt_0 (by decide) rfl h (fun S' v e => c_X12_telling hM.2.2.2.2.2.2.1 e _) ⟨Nat.le_of_ble_eq_true rfl, Nat.le_of_ble_eq_true rfl⟩ rfl hl.1 rfl (Nat.le_of_ble_eq_true rfl) dX12_act_68 (fun S_11 v_12 H locs h hG => ?_)
            exact x_ri hM hG hr hlk rfl (k0 _ (Option.some.inj h).symm) dX12_act_71
          · refine lv_aload_n hx hb dX12_act_56 rfl (lv_at hl 0 rfl) ?_
            refine lv_iload_n hx hb dX12_act_57 rfl (lv_at hl 1 rfl) ?_
            refine lv_iload_n hx hb dX12_act_58 rfl (lv_at hl 3 rfl) ?_
            refine x_cVi (As := [.int x1, .int x3]) (rest := []) hM hG xml_X12_429 xwi_X12_opening xws_X12_opening xmt_0 (by decide) rfl h (fun S' v e => c_X12_opening hM.2.2.2.2.2.2.1 e _) ⟨Nat.le_of_ble_eq_true rfl, Nat.le_of_ble_eq_true rfl⟩ rfl hl.1 rfl (Nat.le_of_ble_eq_true rfl) dX12_act_59 (fun S_13 v_14 H locs h hG => ?_)
            refine lv_goto (tgt := 71) hx hb dX12_act_62 (by decide) ?_
            exact x_ri hM hG hr hlk rfl (k0 _ (Option.some.inj h).symm) dX12_act_71
        · refine lv_aload_n hx hb dX12_act_42 rfl (lv_at hl 0 rfl) ?_
          refine lv_iload_n hx hb dX12_act_43 rfl (lv_at hl 1 rfl) ?_
          refine lv_iload_n hx hb dX12_act_44 rfl (lv_at hl 3 rfl) ?_
          refine x_cVi (As := [.int x1, .int x3]) (rest := []) hM hG xml_X12_438 xwi_X12_heating xws_X12_heating xmt_0 (by decide) rfl h (fun S' v e => c_X12_heating hM.2.2.2.2.2.2.1 e _) ⟨Nat.le_of_ble_eq_true rfl, Nat.le_of_ble_eq_true rfl⟩ rfl hl.1 rfl (Nat.le_of_ble_eq_true rfl) dX12_act_45 (fun S_15 v_16 H locs h hG => ?_)
          refine lv_goto (tgt := 71) hx hb dX12_act_48 (by decide) ?_
          exact x_ri hM hG hr hlk rfl (k0 _ (Option.some.inj h).symm) dX12_act_71
      · refine lv_aload_n hx hb dX12_act_28 rfl (lv_at hl 0 rfl) ?_
        refine lv_iload_n hx hb dX12_act_29 rfl (lv_at hl 1 rfl) ?_
        refine lv_iload_n hx hb dX12_act_30 rfl (lv_at hl 3 rfl) ?_
        refine x_cVi (As := [.int x1, .int x3]) (rest := []) hM hG xml_X12_420 xwi_X12_reading xws_X12_reading xmt_0 (by decide) rfl h (fun S' v e => c_X12_reading hM.2.2.2.2.2.2.1 e _) ⟨Nat.le_of_ble_eq_true rfl, Nat.le_of_ble_eq_true rfl⟩ rfl hl.1 rfl (Nat.le_of_ble_eq_true rfl) dX12_act_31 (fun S_17 v_18 H locs h hG => ?_)
        refine lv_goto (tgt := 71) hx hb dX12_act_34 (by decide) ?_
        exact x_ri hM hG hr hlk rfl (k0 _ (Option.some.inj h).symm) dX12_act_71
    · refine lv_iconst (v := (0 : Int32)) hx hb dX12_act_22 (by decide) ?_
      exact x_ri hM hG hr hlk rfl (k0 _ (Option.some.inj h).symm) dX12_act_23
set_option maxHeartbeats 4000000 in
set_option maxRecDepth 100000 in
theorem c_X12_act {l : Launch} {D : va_G} {cy : Nat → ClassId} {a z : Nat → Nat} (hI : xI xmb a) {S : xSt} {x1 : Int32} {x2 : Int32} {x3 : Int32} {S' : xSt} {v' : Int32} (hf : f_X12_act S x1 x2 x3 = some (S', v')) (sz : Nat) : Met l yX12_act (Cond.code yX12_act cX12_act 4 (some .int) :: xTB) ({ frames := 9, cells := 0, slots := 0, locals := 199 } : Room) (va_Pc [.ref (a 0), .int x1, .int x2, .int x3] (xPre D cy xmb a z S sz)) (xQi D cy xmb a S' v' sz) 0 0 (xA xmb a sz) := by
  refine Met.ofW (cc := cX12_act) (maxL := 4) (ret := (some .int)) (by decide) rfl ?_
  intro p e s m args below meth c s₁ B hml hv
  obtain ⟨rfl, hsz, hP, hK, hE⟩ := hv
  subst hsz
  have hl := lv_entry ([.ref (a 0), .int x1, .int x2, .int x3]) (n := 4) (Nat.le_of_ble_eq_true rfl)
  rw [lg_entry_eq]
  generalize (lg_sl ([.ref (a 0), .int x1, .int x2, .int x3]) ++ List.replicate (4 - (lg_sl ([.ref (a 0), .int x1, .int x2, .int x3])).length) Slot.unset).toArray = ls at hl ⊢
  have hl : lv_has ls 4 [(0, .ref (a 0)), (1, .int x1), (2, .int x2), (3, .int x3)] := hl
  exact w_X12_act_0 ⟨B.exec, B.bytes, hml, findClass_of_methodNamed B.named, fun w hw => atoms_spec (ws := Cond.code yX12_act cX12_act 4 (some .int) :: xTB) B.pre w (List.mem_cons_of_mem _ hw), hK, hI, hE⟩ B.returns B.notSynchronized hf (fun t0 e => e.symm) ⟨hP, va_S.rf⟩ (lv_sub hl [0, 1, 2, 3] rfl)
set_option maxHeartbeats 4000000 in
set_option maxRecDepth 100000 in
theorem w_X12_cellMany_4 {x1 : Int32} {x2 : Int32} (hM : xM p c cX12_cellMany m s args RX12 3 D cy xmb a z) (hr : meth.sig.returnType = (some .int)) (hlk : meth.locks = false) {S' : xSt} {v' : Int32} {S : xSt} {q : ((xSt × Int32 × Int32) ⊕ (xSt × Int32))} (h : f_X12_cellMany_4 S x1 x2 = some q) (k0 : ∀ t0 : xSt × Int32, q = (.inr t0) → t0 = (S', v')) (k1 : ∀ (S : xSt) (x1 : Int32) (x2 : Int32), q = (.inl (S, x1, x2)) → ∀ (H : Heap) (locs : List Loc) (ls : Array Slot), xG D cy xmb a S s H locs → lv_has ls 3 [(0, .ref (a 0)), (1, .int x1), (2, .int x2)] → W p l e ({ frames := 0, cells := 0, slots := 0, locals := 0 } : Room) s m args below meth c H locs 0 0 (MQ below (xQi D cy xmb a S' v' s.heap.size) args s 0 0 (xA xmb a s.heap.size)) (F0 m 4 ls [])) {H : Heap} {locs : List Loc} (hG : xG D cy xmb a S s H locs) {ls : Array Slot} (hl : lv_has ls 3 [(0, .ref (a 0)), (1, .int x1), (2, .int x2)]) : W p l e ({ frames := 0, cells := 0, slots := 0, locals := 0 } : Room) s m args below meth c H locs 0 0 (MQ below (xQi D cy xmb a S' v' s.heap.size) args s 0 0 (xA xmb a s.heap.size)) (F0 m 4 ls []) := by
  have hx := hM.1
  have hb := hM.2.1
  refine lv_iload_n hx hb dX12_cellMany_4 rfl (lv_at hl 2 rfl) ?_
  refine lv_bipush (v := (6 : Int32)) hx hb dX12_cellMany_5 (by decide) ?_
  refine x_icmp_ge (tgt := 25) hM h dX12_cellMany_7 (by decide) (fun c_1 h => ?_) (fun c_1 h => ?_)
  · refine lv_iload_n hx hb dX12_cellMany_25 rfl (lv_at hl 1 rfl) ?_
    exact x_ri hM hG hr hlk rfl (k0 _ (Option.some.inj h).symm) dX12_cellMany_26
  · refine lv_iload_n hx hb dX12_cellMany_10 rfl (lv_at hl 1 rfl) ?_
    refine lv_aload_n hx hb dX12_cellMany_11 rfl (lv_at hl 0 rfl) ?_
    refine x_gr (r := 1) hM hG xfl_X12_9 xmt_0 (by decide) rfl dX12_cellMany_12 ?_
    refine lv_iload_n hx hb dX12_cellMany_15 rfl (lv_at hl 2 rfl) ?_
    refine x_iald hM hG xmt_1 h dX12_cellMany_16 (fun v_2 h => ?_)
    refine x_iadd hM h dX12_cellMany_17 (fun v_3 h => ?_)
    refine lv_istore_n (lv' := [(1, .int v_3), (0, .ref (a 0)), (2, .int x2)]) hx hb dX12_cellMany_18 rfl hl (by decide) rfl (fun ls hl => ?_)
    refine x_iinc hM (fun v => [(2, .int v), (1, .int v_3), (0, .ref (a 0))]) h dX12_cellMany_19 hl (k := 2) rfl (by decide) (by decide) (fun _ => rfl) (fun v_4 ls h hl => ?_)
    refine lv_goto (tgt := 4) hx hb dX12_cellMany_22 (by decide) ?_
    exact k1 _ _ _ (Option.some.inj h).symm _ _ _ hG (lv_sub hl [2, 1, 0] rfl)
theorem wl_X12_cellMany_4 (hM : xM p c cX12_cellMany m s args RX12 3 D cy xmb a z) (hr : meth.sig.returnType = (some .int)) (hlk : meth.locks = false) {S' : xSt} {v' : Int32} {q : (xSt × Int32)} (k0 : ∀ t0 : xSt × Int32, q = t0 → t0 = (S', v')) (n : Nat) : ∀ (S : xSt) (x1 : Int32) (x2 : Int32) (H : Heap) (locs : List Loc) (ls : Array Slot), xlp (fun q : (xSt × Int32 × Int32) => f_X12_cellMany_4 q.1 q.2.1 q.2.2) n (S, x1, x2) = some q → xG D cy xmb a S s H locs → lv_has ls 3 [(0, .ref (a 0)), (1, .int x1), (2, .int x2)] → W p l e ({ frames := 0, cells := 0, slots := 0, locals := 0 } : Room) s m args below meth c H locs 0 0 (MQ below (xQi D cy xmb a S' v' s.heap.size) args s 0 0 (xA xmb a s.heap.size)) (F0 m 4 ls []) := by
  induction n with
  | zero => intro S x1 x2 H locs ls h; exact (xlp_0 h).elim
  | succ n ih =>
    intro S x1 x2 H locs ls h hG hl
    obtain ⟨q1, hq, hc, he⟩ := xlp_at h
    exact w_X12_cellMany_4 hM hr hlk (q := q1) hq (fun t0 e => k0 t0 (he _ e).symm) (fun S x1 x2 e H locs ls hG hl => ih S x1 x2 H locs ls (hc _ e) hG hl) hG hl
set_option maxHeartbeats 4000000 in
set_option maxRecDepth 100000 in
theorem w_X12_cellMany_0 (hM : xM p c cX12_cellMany m s args RX12 3 D cy xmb a z) (hr : meth.sig.returnType = (some .int)) (hlk : meth.locks = false) {S' : xSt} {v' : Int32} {S : xSt} {q : (xSt × Int32)} (h : f_X12_cellMany_0 S = some q) (k0 : ∀ t0 : xSt × Int32, q = t0 → t0 = (S', v')) {H : Heap} {locs : List Loc} (hG : xG D cy xmb a S s H locs) {ls : Array Slot} (hl : lv_has ls 3 [(0, .ref (a 0))]) : W p l e ({ frames := 0, cells := 0, slots := 0, locals := 0 } : Room) s m args below meth c H locs 0 0 (MQ below (xQi D cy xmb a S' v' s.heap.size) args s 0 0 (xA xmb a s.heap.size)) (F0 m 0 ls []) := by
  have hx := hM.1
  have hb := hM.2.1
  refine lv_iconst (v := (0 : Int32)) hx hb dX12_cellMany_0 (by decide) ?_
  refine lv_istore_n (lv' := [(1, .int (0 : Int32)), (0, .ref (a 0))]) hx hb dX12_cellMany_1 rfl hl (by decide) rfl (fun ls hl => ?_)
  refine lv_iconst (v := (0 : Int32)) hx hb dX12_cellMany_2 (by decide) ?_
  refine lv_istore_n (lv' := [(2, .int (0 : Int32)), (1, .int (0 : Int32)), (0, .ref (a 0))]) hx hb dX12_cellMany_3 rfl hl (by decide) rfl (fun ls hl => ?_)
  exact wl_X12_cellMany_4 hM hr hlk (fun t0 e => k0 t0 e) 5000 _ _ _ _ _ _ h hG (lv_sub hl [2, 1, 0] rfl)
set_option maxHeartbeats 4000000 in
set_option maxRecDepth 100000 in
theorem c_X12_cellMany {l : Launch} {D : va_G} {cy : Nat → ClassId} {a z : Nat → Nat} (hI : xI xmb a) {S : xSt} {S' : xSt} {v' : Int32} (hf : f_X12_cellMany S = some (S', v')) (sz : Nat) : Met l yX12_cellMany (Cond.code yX12_cellMany cX12_cellMany 3 (some .int) :: xTB) ({ frames := 0, cells := 0, slots := 0, locals := 0 } : Room) (va_Pc [.ref (a 0)] (xPre D cy xmb a z S sz)) (xQi D cy xmb a S' v' sz) 0 0 (xA xmb a sz) := by
  refine Met.ofW (cc := cX12_cellMany) (maxL := 3) (ret := (some .int)) (by decide) rfl ?_
  intro p e s m args below meth c s₁ B hml hv
  obtain ⟨rfl, hsz, hP, hK, hE⟩ := hv
  subst hsz
  have hl := lv_entry ([.ref (a 0)]) (n := 3) (Nat.le_of_ble_eq_true rfl)
  rw [lg_entry_eq]
  generalize (lg_sl ([.ref (a 0)]) ++ List.replicate (3 - (lg_sl ([.ref (a 0)])).length) Slot.unset).toArray = ls at hl ⊢
  have hl : lv_has ls 3 [(0, .ref (a 0))] := hl
  exact w_X12_cellMany_0 ⟨B.exec, B.bytes, hml, findClass_of_methodNamed B.named, fun w hw => atoms_spec (ws := Cond.code yX12_cellMany cX12_cellMany 3 (some .int) :: xTB) B.pre w (List.mem_cons_of_mem _ hw), hK, hI, hE⟩ B.returns B.notSynchronized hf (fun t0 e => e.symm) ⟨hP, va_S.rf⟩ (lv_sub hl [0] rfl)
set_option maxHeartbeats 4000000 in
set_option maxRecDepth 100000 in
theorem w_X12_glowsNow_0 (hM : xM p c cX12_glowsNow m s args RX12 1 D cy xmb a z) (hr : meth.sig.returnType = (some .int)) (hlk : meth.locks = false) {S' : xSt} {v' : Int32} {S : xSt} {q : (xSt × Int32)} (h : f_X12_glowsNow_0 S = some q) (k0 : ∀ t0 : xSt × Int32, q = t0 → t0 = (S', v')) {H : Heap} {locs : List Loc} (hG : xG D cy xmb a S s H locs) {ls : Array Slot} (hl : lv_has ls 1 [(0, .ref (a 0))]) : W p l e ({ frames := 2, cells := 0, slots := 0, locals := 43 } : Room) s m args below meth c H locs 0 0 (MQ below (xQi D cy xmb a S' v' s.heap.size) args s 0 0 (xA xmb a s.heap.size)) (F0 m 0 ls []) := by
  have hx := hM.1
  have hb := hM.2.1
  refine lv_aload_n hx hb dX12_glowsNow_0 rfl (lv_at hl 0 rfl) ?_
  refine x_cVv (As := []) (rest := []) hM hG xml_X12_273 xwi_X12_layNow xws_X12_layNow xmt_0 (by decide) rfl h (fun S' v e => c_X12_layNow hM.2.2.2.2.2.2.1 e _) ⟨Nat.le_of_ble_eq_true rfl, Nat.le_of_ble_eq_true rfl⟩ rfl hl.1 rfl (Nat.le_of_ble_eq_true rfl) dX12_glowsNow_1 (fun S_1 v_2 H locs h hG => ?_)
  refine lv_aload_n hx hb dX12_glowsNow_4 rfl (lv_at hl 0 rfl) ?_
  refine x_cVi (As := []) (rest := []) hM hG xml_X12_298 xwi_X12_glowMany xws_X12_glowMany xmt_0 (by decide) rfl h (fun S' v e => c_X12_glowMany hM.2.2.2.2.2.2.1 e _) ⟨Nat.le_of_ble_eq_true rfl, Nat.le_of_ble_eq_true rfl⟩ rfl hl.1 rfl (Nat.le_of_ble_eq_true rfl) dX12_glowsNow_5 (fun S_3 v_4 H locs h hG => ?_)
  exact x_ri hM hG hr hlk rfl (k0 _ (Option.some.inj h).symm) dX12_glowsNow_8
set_option maxHeartbeats 4000000 in
set_option maxRecDepth 100000 in
theorem c_X12_glowsNow {l : Launch} {D : va_G} {cy : Nat → ClassId} {a z : Nat → Nat} (hI : xI xmb a) {S : xSt} {S' : xSt} {v' : Int32} (hf : f_X12_glowsNow S = some (S', v')) (sz : Nat) : Met l yX12_glowsNow (Cond.code yX12_glowsNow cX12_glowsNow 1 (some .int) :: xTB) ({ frames := 2, cells := 0, slots := 0, locals := 43 } : Room) (va_Pc [.ref (a 0)] (xPre D cy xmb a z S sz)) (xQi D cy xmb a S' v' sz) 0 0 (xA xmb a sz) := by
  refine Met.ofW (cc := cX12_glowsNow) (maxL := 1) (ret := (some .int)) (by decide) rfl ?_
  intro p e s m args below meth c s₁ B hml hv
  obtain ⟨rfl, hsz, hP, hK, hE⟩ := hv
  subst hsz
  have hl := lv_entry ([.ref (a 0)]) (n := 1) (Nat.le_of_ble_eq_true rfl)
  rw [lg_entry_eq]
  generalize (lg_sl ([.ref (a 0)]) ++ List.replicate (1 - (lg_sl ([.ref (a 0)])).length) Slot.unset).toArray = ls at hl ⊢
  have hl : lv_has ls 1 [(0, .ref (a 0))] := hl
  exact w_X12_glowsNow_0 ⟨B.exec, B.bytes, hml, findClass_of_methodNamed B.named, fun w hw => atoms_spec (ws := Cond.code yX12_glowsNow cX12_glowsNow 1 (some .int) :: xTB) B.pre w (List.mem_cons_of_mem _ hw), hK, hI, hE⟩ B.returns B.notSynchronized hf (fun t0 e => e.symm) ⟨hP, va_S.rf⟩ (lv_sub hl [0] rfl)
set_option maxHeartbeats 4000000 in
set_option maxRecDepth 100000 in
theorem w_X12_count_0 {x1 : Int32} (hM : xM p c cX12_count m s args RX12 2 D cy xmb a z) (hr : meth.sig.returnType = (some .int)) (hlk : meth.locks = false) {S' : xSt} {v' : Int32} {S : xSt} {q : (xSt × Int32)} (h : f_X12_count_0 x1 S = some q) (k0 : ∀ t0 : xSt × Int32, q = t0 → t0 = (S', v')) {H : Heap} {locs : List Loc} (hG : xG D cy xmb a S s H locs) {ls : Array Slot} (hl : lv_has ls 2 [(0, .ref (a 0)), (1, .int x1)]) : W p l e ({ frames := 3, cells := 0, slots := 0, locals := 63 } : Room) s m args below meth c H locs 0 0 (MQ below (xQi D cy xmb a S' v' s.heap.size) args s 0 0 (xA xmb a s.heap.size)) (F0 m 0 ls []) := by
  have hx := hM.1
  have hb := hM.2.1
  refine lv_iload_n hx hb dX12_count_0 rfl (lv_at hl 1 rfl) ?_
  by_cases c_1 : x1 = (0 : Int32)
  · have h := (if_pos c_1).symm.trans h
    refine lv_tableIn (off := 39) (tgt := 40) hx hb dX12_count_1 (by rw [c_1]; decide) (by rw [c_1]; decide) (by rw [c_1]; rfl) (by decide) ?_
    refine lv_aload_n hx hb dX12_count_40 rfl (lv_at hl 0 rfl) ?_
    refine x_cVi (As := []) (rest := []) hM hG xml_X12_450 xwi_X12_cellMany xws_X12_cellMany xmt_0 (by decide) rfl h (fun S' v e => c_X12_cellMany hM.2.2.2.2.2.2.1 e _) ⟨Nat.le_of_ble_eq_true rfl, Nat.le_of_ble_eq_true rfl⟩ rfl hl.1 rfl (Nat.le_of_ble_eq_true rfl) dX12_count_41 (fun S_2 v_3 H locs h hG => ?_)
    exact x_ri hM hG hr hlk rfl (k0 _ (Option.some.inj h).symm) dX12_count_44
  · have h := (if_neg c_1).symm.trans h
    by_cases c_4 : x1 = (1 : Int32)
    · have h := (if_pos c_4).symm.trans h
      refine lv_tableIn (off := 44) (tgt := 45) hx hb dX12_count_1 (by rw [c_4]; decide) (by rw [c_4]; decide) (by rw [c_4]; rfl) (by decide) ?_
      refine lv_aload_n hx hb dX12_count_45 rfl (lv_at hl 0 rfl) ?_
      refine x_cVi (As := []) (rest := []) hM hG xml_X12_453 xwi_X12_glowsNow xws_X12_glowsNow xmt_0 (by decide) rfl h (fun S' v e => c_X12_glowsNow hM.2.2.2.2.2.2.1 e _) ⟨Nat.le_of_ble_eq_true rfl, Nat.le_of_ble_eq_true rfl⟩ rfl hl.1 rfl (Nat.le_of_ble_eq_true rfl) dX12_count_46 (fun S_5 v_6 H locs h hG => ?_)
      exact x_ri hM hG hr hlk rfl (k0 _ (Option.some.inj h).symm) dX12_count_49
    · have h := (if_neg c_4).symm.trans h
      by_cases c_7 : x1 = (2 : Int32)
      · have h := (if_pos c_7).symm.trans h
        refine lv_tableIn (off := 49) (tgt := 50) hx hb dX12_count_1 (by rw [c_7]; decide) (by rw [c_7]; decide) (by rw [c_7]; rfl) (by decide) ?_
        refine lv_aload_n hx hb dX12_count_50 rfl (lv_at hl 0 rfl) ?_
        refine x_gi hM hG xfl_X12_186 xmt_0 (by decide) rfl h dX12_count_51 (fun v_8 h => ?_)
        exact x_ri hM hG hr hlk rfl (k0 _ (Option.some.inj h).symm) dX12_count_54
      · have h := (if_neg c_7).symm.trans h
        by_cases c_9 : x1 = (3 : Int32)
        · have h := (if_pos c_9).symm.trans h
          refine lv_tableIn (off := 54) (tgt := 55) hx hb dX12_count_1 (by rw [c_9]; decide) (by rw [c_9]; decide) (by rw [c_9]; rfl) (by decide) ?_
          refine lv_aload_n hx hb dX12_count_55 rfl (lv_at hl 0 rfl) ?_
          refine x_gi hM hG xfl_X12_166 xmt_0 (by decide) rfl h dX12_count_56 (fun v_10 h => ?_)
          exact x_ri hM hG hr hlk rfl (k0 _ (Option.some.inj h).symm) dX12_count_59
        · have h := (if_neg c_9).symm.trans h
          by_cases c_11 : x1 = (4 : Int32)
          · have h := (if_pos c_11).symm.trans h
            refine lv_tableIn (off := 59) (tgt := 60) hx hb dX12_count_1 (by rw [c_11]; decide) (by rw [c_11]; decide) (by rw [c_11]; rfl) (by decide) ?_
            refine lv_aload_n hx hb dX12_count_60 rfl (lv_at hl 0 rfl) ?_
            refine x_gi hM hG xfl_X12_402 xmt_0 (by decide) rfl h dX12_count_61 (fun v_12 h => ?_)
            exact x_ri hM hG hr hlk rfl (k0 _ (Option.some.inj h).symm) dX12_count_64
          · have h := (if_neg c_11).symm.trans h
            by_cases c_13 : x1 = (5 : Int32)
            · have h := (if_pos c_13).symm.trans h
              refine lv_tableIn (off := 64) (tgt := 65) hx hb dX12_count_1 (by rw [c_13]; decide) (by rw [c_13]; decide) (by rw [c_13]; rfl) (by decide) ?_
              refine lv_aload_n hx hb dX12_count_65 rfl (lv_at hl 0 rfl) ?_
              refine x_gi hM hG xfl_X12_405 xmt_0 (by decide) rfl h dX12_count_66 (fun v_14 h => ?_)
              exact x_ri hM hG hr hlk rfl (k0 _ (Option.some.inj h).symm) dX12_count_69
            · have h := (if_neg c_13).symm.trans h
              refine lv_tableOut (tgt := 70) hx hb dX12_count_1 (x_tout [(0 : Int32), (1 : Int32), (2 : Int32), (3 : Int32), (4 : Int32), (5 : Int32)] 0 (by decide) (by decide) (List.forall_mem_cons.mpr ⟨c_1, (List.forall_mem_cons.mpr ⟨c_4, (List.forall_mem_cons.mpr ⟨c_7, (List.forall_mem_cons.mpr ⟨c_9, (List.forall_mem_cons.mpr ⟨c_11, (List.forall_mem_cons.mpr ⟨c_13, (fun _ h => absurd h List.not_mem_nil)⟩)⟩)⟩)⟩)⟩)⟩)) (by decide) ?_
              refine lv_iconst (v := (-1 : Int32)) hx hb dX12_count_70 (by decide) ?_
              exact x_ri hM hG hr hlk rfl (k0 _ (Option.some.inj h).symm) dX12_count_71
set_option maxHeartbeats 4000000 in
set_option maxRecDepth 100000 in
theorem c_X12_count {l : Launch} {D : va_G} {cy : Nat → ClassId} {a z : Nat → Nat} (hI : xI xmb a) {S : xSt} {x1 : Int32} {S' : xSt} {v' : Int32} (hf : f_X12_count S x1 = some (S', v')) (sz : Nat) : Met l yX12_count (Cond.code yX12_count cX12_count 2 (some .int) :: xTB) ({ frames := 3, cells := 0, slots := 0, locals := 63 } : Room) (va_Pc [.ref (a 0), .int x1] (xPre D cy xmb a z S sz)) (xQi D cy xmb a S' v' sz) 0 0 (xA xmb a sz) := by
  refine Met.ofW (cc := cX12_count) (maxL := 2) (ret := (some .int)) (by decide) rfl ?_
  intro p e s m args below meth c s₁ B hml hv
  obtain ⟨rfl, hsz, hP, hK, hE⟩ := hv
  subst hsz
  have hl := lv_entry ([.ref (a 0), .int x1]) (n := 2) (Nat.le_of_ble_eq_true rfl)
  rw [lg_entry_eq]
  generalize (lg_sl ([.ref (a 0), .int x1]) ++ List.replicate (2 - (lg_sl ([.ref (a 0), .int x1])).length) Slot.unset).toArray = ls at hl ⊢
  have hl : lv_has ls 2 [(0, .ref (a 0)), (1, .int x1)] := hl
  exact w_X12_count_0 ⟨B.exec, B.bytes, hml, findClass_of_methodNamed B.named, fun w hw => atoms_spec (ws := Cond.code yX12_count cX12_count 2 (some .int) :: xTB) B.pre w (List.mem_cons_of_mem _ hw), hK, hI, hE⟩ B.returns B.notSynchronized hf (fun t0 e => e.symm) ⟨hP, va_S.rf⟩ (lv_sub hl [0, 1] rfl)
set_option maxHeartbeats 4000000 in
set_option maxRecDepth 100000 in
theorem w_X12_keep_22 {x1 : Int32} {x2 : Int32} (hM : xM p c cX12_keep m s args RX12 3 D cy xmb a z) (hr : meth.sig.returnType = (some .int)) (hlk : meth.locks = false) {S' : xSt} {v' : Int32} {S : xSt} {q : (xSt × Int32)} (h : f_X12_keep_22 x1 x2 S = some q) (k0 : ∀ t0 : xSt × Int32, q = t0 → t0 = (S', v')) {H : Heap} {locs : List Loc} (hG : xG D cy xmb a S s H locs) {ls : Array Slot} (hl : lv_has ls 3 [(0, .ref (a 0)), (1, .int x1), (2, .int x2)]) : W p l e ({ frames := 2, cells := 0, slots := 0, locals := 43 } : Room) s m args below meth c H locs 0 0 (MQ below (xQi D cy xmb a S' v' s.heap.size) args s 0 0 (xA xmb a s.heap.size)) (F0 m 22 ls []) := by
  have hx := hM.1
  have hb := hM.2.1
  refine lv_aload_n hx hb dX12_keep_22 rfl (lv_at hl 0 rfl) ?_
  refine x_gr (r := 37) hM hG xfl_X12_126 xmt_0 (by decide) rfl dX12_keep_23 ?_
  refine lv_iload_n hx hb dX12_keep_26 rfl (lv_at hl 1 rfl) ?_
  refine lv_iload_n hx hb dX12_keep_27 rfl (lv_at hl 2 rfl) ?_
  refine x_iast hM hG xmt_37 h dX12_keep_28 (fun S_1 H locs h hG => ?_)
  refine lv_iconst (v := (1 : Int32)) hx hb dX12_keep_29 (by decide) ?_
  exact x_ri hM hG hr hlk rfl (k0 _ (Option.some.inj h).symm) dX12_keep_30
set_option maxHeartbeats 4000000 in
set_option maxRecDepth 100000 in
theorem w_X12_keep_0 {x1 : Int32} {x2 : Int32} (hM : xM p c cX12_keep m s args RX12 3 D cy xmb a z) (hr : meth.sig.returnType = (some .int)) (hlk : meth.locks = false) {S' : xSt} {v' : Int32} {S : xSt} {q : (xSt × Int32)} (h : f_X12_keep_0 x1 x2 S = some q) (k0 : ∀ t0 : xSt × Int32, q = t0 → t0 = (S', v')) {H : Heap} {locs : List Loc} (hG : xG D cy xmb a S s H locs) {ls : Array Slot} (hl : lv_has ls 3 [(0, .ref (a 0)), (1, .int x1), (2, .int x2)]) : W p l e ({ frames := 2, cells := 0, slots := 0, locals := 43 } : Room) s m args below meth c H locs 0 0 (MQ below (xQi D cy xmb a S' v' s.heap.size) args s 0 0 (xA xmb a s.heap.size)) (F0 m 0 ls []) := by
  have hx := hM.1
  have hb := hM.2.1
  refine lv_iload_n hx hb dX12_keep_0 rfl (lv_at hl 1 rfl) ?_
  refine x_cSi (As := [.int x1]) (rest := []) hM hG xml_X12_154 xwt_X12_isShelf h (fun S' v e => c_X12_isShelf hM.2.2.2.2.2.2.1 e _) ⟨Nat.le_of_ble_eq_true rfl, Nat.le_of_ble_eq_true rfl⟩ rfl hl.1 rfl (Nat.le_of_ble_eq_true rfl) dX12_keep_1 (fun S_1 v_2 H locs h hG => ?_)
  refine x_if_eq (tgt := 20) hM h dX12_keep_4 (by decide) (fun c_3 h => ?_) (fun c_3 h => ?_)
  · refine lv_iconst (v := (-1 : Int32)) hx hb dX12_keep_20 (by decide) ?_
    exact x_ri hM hG hr hlk rfl (k0 _ (Option.some.inj h).symm) dX12_keep_21
  · refine lv_iload_n hx hb dX12_keep_7 rfl (lv_at hl 2 rfl) ?_
    refine lv_iconst (v := (-1 : Int32)) hx hb dX12_keep_8 (by decide) ?_
    refine x_icmp_eq (tgt := 22) hM h dX12_keep_9 (by decide) (fun c_4 h => ?_) (fun c_4 h => ?_)
    · exact w_X12_keep_22 hM hr hlk h (fun t0 e => k0 t0 e) hG (lv_sub hl [0, 1, 2] rfl)
    · refine lv_aload_n hx hb dX12_keep_12 rfl (lv_at hl 0 rfl) ?_
      refine lv_iload_n hx hb dX12_keep_13 rfl (lv_at hl 2 rfl) ?_
      refine x_cVi (As := [.int x2]) (rest := []) hM hG xml_X12_444 xwi_X12_isBody xws_X12_isBody xmt_0 (by decide) rfl h (fun S' v e => c_X12_isBody hM.2.2.2.2.2.2.1 e _) ⟨Nat.le_of_ble_eq_true rfl, Nat.le_of_ble_eq_true rfl⟩ rfl hl.1 rfl (Nat.le_of_ble_eq_true rfl) dX12_keep_14 (fun S_5 v_6 H locs h hG => ?_)
      refine x_if_ne (tgt := 22) hM h dX12_keep_17 (by decide) (fun c_7 h => ?_) (fun c_7 h => ?_)
      · exact w_X12_keep_22 hM hr hlk h (fun t0 e => k0 t0 e) hG (lv_sub hl [0, 1, 2] rfl)
      · refine lv_iconst (v := (-1 : Int32)) hx hb dX12_keep_20 (by decide) ?_
        exact x_ri hM hG hr hlk rfl (k0 _ (Option.some.inj h).symm) dX12_keep_21
set_option maxHeartbeats 4000000 in
set_option maxRecDepth 100000 in
theorem c_X12_keep {l : Launch} {D : va_G} {cy : Nat → ClassId} {a z : Nat → Nat} (hI : xI xmb a) {S : xSt} {x1 : Int32} {x2 : Int32} {S' : xSt} {v' : Int32} (hf : f_X12_keep S x1 x2 = some (S', v')) (sz : Nat) : Met l yX12_keep (Cond.code yX12_keep cX12_keep 3 (some .int) :: xTB) ({ frames := 2, cells := 0, slots := 0, locals := 43 } : Room) (va_Pc [.ref (a 0), .int x1, .int x2] (xPre D cy xmb a z S sz)) (xQi D cy xmb a S' v' sz) 0 0 (xA xmb a sz) := by
  refine Met.ofW (cc := cX12_keep) (maxL := 3) (ret := (some .int)) (by decide) rfl ?_
  intro p e s m args below meth c s₁ B hml hv
  obtain ⟨rfl, hsz, hP, hK, hE⟩ := hv
  subst hsz
  have hl := lv_entry ([.ref (a 0), .int x1, .int x2]) (n := 3) (Nat.le_of_ble_eq_true rfl)
  rw [lg_entry_eq]
  generalize (lg_sl ([.ref (a 0), .int x1, .int x2]) ++ List.replicate (3 - (lg_sl ([.ref (a 0), .int x1, .int x2])).length) Slot.unset).toArray = ls at hl ⊢
  have hl : lv_has ls 3 [(0, .ref (a 0)), (1, .int x1), (2, .int x2)] := hl
  exact w_X12_keep_0 ⟨B.exec, B.bytes, hml, findClass_of_methodNamed B.named, fun w hw => atoms_spec (ws := Cond.code yX12_keep cX12_keep 3 (some .int) :: xTB) B.pre w (List.mem_cons_of_mem _ hw), hK, hI, hE⟩ B.returns B.notSynchronized hf (fun t0 e => e.symm) ⟨hP, va_S.rf⟩ (lv_sub hl [0, 1, 2] rfl)
set_option maxHeartbeats 4000000 in
set_option maxRecDepth 100000 in
theorem w_X12_row_54 {x1 : Int32} {x4 : Int32} (hM : xM p c cX12_row m s args RX12 5 D cy xmb a z) (hr : meth.sig.returnType = (some .int)) (hlk : meth.locks = false) {S' : xSt} {v' : Int32} {S : xSt} {q : ((xSt × Int32) ⊕ (xSt × Int32))} (h : f_X12_row_54 x1 S x4 = some q) (k0 : ∀ t0 : xSt × Int32, q = (.inr t0) → t0 = (S', v')) (k1 : ∀ (S : xSt) (x4 : Int32), q = (.inl (S, x4)) → ∀ (H : Heap) (locs : List Loc) (ls : Array Slot), xG D cy xmb a S s H locs → lv_has ls 5 [(0, .ref (a 0)), (1, .int x1), (4, .int x4)] → W p l e ({ frames := 2, cells := 0, slots := 0, locals := 42 } : Room) s m args below meth c H locs 0 0 (MQ below (xQi D cy xmb a S' v' s.heap.size) args s 0 0 (xA xmb a s.heap.size)) (F0 m 54 ls [])) {H : Heap} {locs : List Loc} (hG : xG D cy xmb a S s H locs) {ls : Array Slot} (hl : lv_has ls 5 [(0, .ref (a 0)), (1, .int x1), (4, .int x4)]) : W p l e ({ frames := 2, cells := 0, slots := 0, locals := 42 } : Room) s m args below meth c H locs 0 0 (MQ below (xQi D cy xmb a S' v' s.heap.size) args s 0 0 (xA xmb a s.heap.size)) (F0 m 54 ls []) := by
  have hx := hM.1
  have hb := hM.2.1
  refine lv_iload hx hb dX12_row_54 (lv_at hl 2 rfl) ?_
  refine lv_bipush (v := (60 : Int32)) hx hb dX12_row_56 (by decide) ?_
  refine lv_iload_n hx hb dX12_row_58 rfl (lv_at hl 1 rfl) ?_
  refine x_imul hM h dX12_row_59 (fun v_1 h => ?_)
  refine lv_bipush (v := (60 : Int32)) hx hb dX12_row_60 (by decide) ?_
  refine x_iadd hM h dX12_row_62 (fun v_2 h => ?_)
  refine x_icmp_ge (tgt := 80) hM h dX12_row_63 (by decide) (fun c_3 h => ?_) (fun c_3 h => ?_)
  · refine lv_iconst (v := (1 : Int32)) hx hb dX12_row_80 (by decide) ?_
    exact x_ri hM hG hr hlk rfl (k0 _ (Option.some.inj h).symm) dX12_row_81
  · refine lv_aload_n hx hb dX12_row_66 rfl (lv_at hl 0 rfl) ?_
    refine x_gr (r := 39) hM hG xfl_X12_132 xmt_0 (by decide) rfl dX12_row_67 ?_
    refine lv_iload hx hb dX12_row_70 (lv_at hl 2 rfl) ?_
    refine lv_lconst (v := (0 : Int64)) hx hb dX12_row_72 (by decide) ?_
    refine x_last hM hG xmt_39 h dX12_row_73 (fun S_4 H locs h hG => ?_)
    refine x_iinc hM (fun v => [(4, .int v), (0, .ref (a 0)), (1, .int x1)]) h dX12_row_74 hl (k := 2) rfl (by decide) (by decide) (fun _ => rfl) (fun v_5 ls h hl => ?_)
    refine lv_goto (tgt := 54) hx hb dX12_row_77 (by decide) ?_
    exact k1 _ _ (Option.some.inj h).symm _ _ _ hG (lv_sub hl [1, 2, 0] rfl)
theorem wl_X12_row_54 {x1 : Int32} (hM : xM p c cX12_row m s args RX12 5 D cy xmb a z) (hr : meth.sig.returnType = (some .int)) (hlk : meth.locks = false) {S' : xSt} {v' : Int32} {q : (xSt × Int32)} (k0 : ∀ t0 : xSt × Int32, q = t0 → t0 = (S', v')) (n : Nat) : ∀ (S : xSt) (x4 : Int32) (H : Heap) (locs : List Loc) (ls : Array Slot), xlp (fun q : (xSt × Int32) => f_X12_row_54 x1 q.1 q.2) n (S, x4) = some q → xG D cy xmb a S s H locs → lv_has ls 5 [(0, .ref (a 0)), (1, .int x1), (4, .int x4)] → W p l e ({ frames := 2, cells := 0, slots := 0, locals := 42 } : Room) s m args below meth c H locs 0 0 (MQ below (xQi D cy xmb a S' v' s.heap.size) args s 0 0 (xA xmb a s.heap.size)) (F0 m 54 ls []) := by
  induction n with
  | zero => intro S x4 H locs ls h; exact (xlp_0 h).elim
  | succ n ih =>
    intro S x4 H locs ls h hG hl
    obtain ⟨q1, hq, hc, he⟩ := xlp_at h
    exact w_X12_row_54 hM hr hlk (q := q1) hq (fun t0 e => k0 t0 (he _ e).symm) (fun S x4 e H locs ls hG hl => ih S x4 H locs ls (hc _ e) hG hl) hG hl
set_option maxHeartbeats 4000000 in
set_option maxRecDepth 100000 in
theorem w_X12_row_0 {x1 : Int32} {x2 : Int32} {x3 : Int32} (hM : xM p c cX12_row m s args RX12 5 D cy xmb a z) (hr : meth.sig.returnType = (some .int)) (hlk : meth.locks = false) {S' : xSt} {v' : Int32} {S : xSt} {q : (xSt × Int32)} (h : f_X12_row_0 x1 x2 x3 S = some q) (k0 : ∀ t0 : xSt × Int32, q = t0 → t0 = (S', v')) {H : Heap} {locs : List Loc} (hG : xG D cy xmb a S s H locs) {ls : Array Slot} (hl : lv_has ls 5 [(0, .ref (a 0)), (1, .int x1), (2, .int x2), (3, .int x3)]) : W p l e ({ frames := 2, cells := 0, slots := 0, locals := 42 } : Room) s m args below meth c H locs 0 0 (MQ below (xQi D cy xmb a S' v' s.heap.size) args s 0 0 (xA xmb a s.heap.size)) (F0 m 0 ls []) := by
  have hx := hM.1
  have hb := hM.2.1
  refine lv_iload_n hx hb dX12_row_0 rfl (lv_at hl 1 rfl) ?_
  refine x_cSi (As := [.int x1]) (rest := []) hM hG xml_X12_154 xwt_X12_isShelf h (fun S' v e => c_X12_isShelf hM.2.2.2.2.2.2.1 e _) ⟨Nat.le_of_ble_eq_true rfl, Nat.le_of_ble_eq_true rfl⟩ rfl hl.1 rfl (Nat.le_of_ble_eq_true rfl) dX12_row_1 (fun S_1 v_2 H locs h hG => ?_)
  refine x_if_eq (tgt := 22) hM h dX12_row_4 (by decide) (fun c_3 h => ?_) (fun c_3 h => ?_)
  · refine lv_iconst (v := (-1 : Int32)) hx hb dX12_row_22 (by decide) ?_
    exact x_ri hM hG hr hlk rfl (k0 _ (Option.some.inj h).symm) dX12_row_23
  · refine lv_iload_n hx hb dX12_row_7 rfl (lv_at hl 2 rfl) ?_
    refine lv_iconst (v := (0 : Int32)) hx hb dX12_row_8 (by decide) ?_
    refine lv_iconst (v := (4 : Int32)) hx hb dX12_row_9 (by decide) ?_
    refine x_cSi (As := [.int x2, .int (0 : Int32), .int (4 : Int32)]) (rest := []) hM hG xml_X12_142 xwt_X12_in h (fun S' v e => c_X12_in hM.2.2.2.2.2.2.1 e _) ⟨Nat.le_of_ble_eq_true rfl, Nat.le_of_ble_eq_true rfl⟩ rfl hl.1 rfl (Nat.le_of_ble_eq_true rfl) dX12_row_10 (fun S_4 v_5 H locs h hG => ?_)
    refine x_if_eq (tgt := 22) hM h dX12_row_13 (by decide) (fun c_6 h => ?_) (fun c_6 h => ?_)
    · refine lv_iconst (v := (-1 : Int32)) hx hb dX12_row_22 (by decide) ?_
      exact x_ri hM hG hr hlk rfl (k0 _ (Option.some.inj h).symm) dX12_row_23
    · refine lv_iload_n hx hb dX12_row_16 rfl (lv_at hl 3 rfl) ?_
      refine lv_bipush (v := (60 : Int32)) hx hb dX12_row_17 (by decide) ?_
      refine x_icmp_le (tgt := 24) hM h dX12_row_19 (by decide) (fun c_7 h => ?_) (fun c_7 h => ?_)
      · refine lv_iload_n hx hb dX12_row_24 rfl (lv_at hl 3 rfl) ?_
        refine x_if_ge (tgt := 31) hM h dX12_row_25 (by decide) (fun c_8 h => ?_) (fun c_8 h => ?_)
        · refine lv_aload_n hx hb dX12_row_31 rfl (lv_at hl 0 rfl) ?_
          refine x_gr (r := 37) hM hG xfl_X12_126 xmt_0 (by decide) rfl dX12_row_32 ?_
          refine lv_iload_n hx hb dX12_row_35 rfl (lv_at hl 1 rfl) ?_
          refine lv_bipush (v := (-2 : Int32)) hx hb dX12_row_36 (by decide) ?_
          refine lv_iload_n hx hb dX12_row_38 rfl (lv_at hl 2 rfl) ?_
          refine x_isub hM h dX12_row_39 (fun v_9 h => ?_)
          refine x_iast hM hG xmt_37 h dX12_row_40 (fun S_10 H locs h hG => ?_)
          refine lv_aload_n hx hb dX12_row_41 rfl (lv_at hl 0 rfl) ?_
          refine x_gr (r := 38) hM hG xfl_X12_129 xmt_0 (by decide) rfl dX12_row_42 ?_
          refine lv_iload_n hx hb dX12_row_45 rfl (lv_at hl 1 rfl) ?_
          refine lv_iload_n hx hb dX12_row_46 rfl (lv_at hl 3 rfl) ?_
          refine x_iast hM hG xmt_38 h dX12_row_47 (fun S_11 H locs h hG => ?_)
          refine lv_bipush (v := (60 : Int32)) hx hb dX12_row_48 (by decide) ?_
          refine lv_iload_n hx hb dX12_row_50 rfl (lv_at hl 1 rfl) ?_
          refine x_imul hM h dX12_row_51 (fun v_12 h => ?_)
          refine lv_istore (lv' := [(4, .int v_12), (0, .ref (a 0)), (1, .int x1), (2, .int x2), (3, .int x3)]) hx hb dX12_row_52 hl (by decide) rfl (fun ls hl => ?_)
          exact wl_X12_row_54 hM hr hlk (fun t0 e => k0 t0 e) 5000 _ _ _ _ _ h hG (lv_sub hl [1, 2, 0] rfl)
        · refine lv_bipush (v := (-14 : Int32)) hx hb dX12_row_28 (by decide) ?_
          exact x_ri hM hG hr hlk rfl (k0 _ (Option.some.inj h).symm) dX12_row_30
      · refine lv_iconst (v := (-1 : Int32)) hx hb dX12_row_22 (by decide) ?_
        exact x_ri hM hG hr hlk rfl (k0 _ (Option.some.inj h).symm) dX12_row_23
set_option maxHeartbeats 4000000 in
set_option maxRecDepth 100000 in
theorem c_X12_row {l : Launch} {D : va_G} {cy : Nat → ClassId} {a z : Nat → Nat} (hI : xI xmb a) {S : xSt} {x1 : Int32} {x2 : Int32} {x3 : Int32} {S' : xSt} {v' : Int32} (hf : f_X12_row S x1 x2 x3 = some (S', v')) (sz : Nat) : Met l yX12_row (Cond.code yX12_row cX12_row 5 (some .int) :: xTB) ({ frames := 2, cells := 0, slots := 0, locals := 42 } : Room) (va_Pc [.ref (a 0), .int x1, .int x2, .int x3] (xPre D cy xmb a z S sz)) (xQi D cy xmb a S' v' sz) 0 0 (xA xmb a sz) := by
  refine Met.ofW (cc := cX12_row) (maxL := 5) (ret := (some .int)) (by decide) rfl ?_
  intro p e s m args below meth c s₁ B hml hv
  obtain ⟨rfl, hsz, hP, hK, hE⟩ := hv
  subst hsz
  have hl := lv_entry ([.ref (a 0), .int x1, .int x2, .int x3]) (n := 5) (Nat.le_of_ble_eq_true rfl)
  rw [lg_entry_eq]
  generalize (lg_sl ([.ref (a 0), .int x1, .int x2, .int x3]) ++ List.replicate (5 - (lg_sl ([.ref (a 0), .int x1, .int x2, .int x3])).length) Slot.unset).toArray = ls at hl ⊢
  have hl : lv_has ls 5 [(0, .ref (a 0)), (1, .int x1), (2, .int x2), (3, .int x3)] := hl
  exact w_X12_row_0 ⟨B.exec, B.bytes, hml, findClass_of_methodNamed B.named, fun w hw => atoms_spec (ws := Cond.code yX12_row cX12_row 5 (some .int) :: xTB) B.pre w (List.mem_cons_of_mem _ hw), hK, hI, hE⟩ B.returns B.notSynchronized hf (fun t0 e => e.symm) ⟨hP, va_S.rf⟩ (lv_sub hl [0, 1, 2, 3] rfl)
set_option maxHeartbeats 4000000 in
set_option maxRecDepth 100000 in
theorem w_X12_whyNoPlace_0 {x1 : Int32} {x2 : Int32} (hM : xM p c cX12_whyNoPlace m s args RX12 3 D cy xmb a z) (hr : meth.sig.returnType = (some .int)) (hlk : meth.locks = false) {S' : xSt} {v' : Int32} {S : xSt} {q : (xSt × Int32)} (h : f_X12_whyNoPlace_0 x1 x2 S = some q) (k0 : ∀ t0 : xSt × Int32, q = t0 → t0 = (S', v')) {H : Heap} {locs : List Loc} (hG : xG D cy xmb a S s H locs) {ls : Array Slot} (hl : lv_has ls 3 [(0, .ref (a 0)), (1, .int x1), (2, .int x2)]) : W p l e ({ frames := 2, cells := 0, slots := 0, locals := 42 } : Room) s m args below meth c H locs 0 0 (MQ below (xQi D cy xmb a S' v' s.heap.size) args s 0 0 (xA xmb a s.heap.size)) (F0 m 0 ls []) := by
  have hx := hM.1
  have hb := hM.2.1
  refine lv_iload_n hx hb dX12_whyNoPlace_0 rfl (lv_at hl 1 rfl) ?_
  refine x_cSi (As := [.int x1]) (rest := []) hM hG xml_X12_154 xwt_X12_isShelf h (fun S' v e => c_X12_isShelf hM.2.2.2.2.2.2.1 e _) ⟨Nat.le_of_ble_eq_true rfl, Nat.le_of_ble_eq_true rfl⟩ rfl hl.1 rfl (Nat.le_of_ble_eq_true rfl) dX12_whyNoPlace_1 (fun S_1 v_2 H locs h hG => ?_)
  refine x_if_ne (tgt := 9) hM h dX12_whyNoPlace_4 (by decide) (fun c_3 h => ?_) (fun c_3 h => ?_)
  · refine lv_aload_n hx hb dX12_whyNoPlace_9 rfl (lv_at hl 0 rfl) ?_
    refine x_gr (r := 37) hM hG xfl_X12_126 xmt_0 (by decide) rfl dX12_whyNoPlace_10 ?_
    refine lv_iload_n hx hb dX12_whyNoPlace_13 rfl (lv_at hl 1 rfl) ?_
    refine x_iald hM hG xmt_37 h dX12_whyNoPlace_14 (fun v_4 h => ?_)
    refine lv_iconst (v := (-1 : Int32)) hx hb dX12_whyNoPlace_15 (by decide) ?_
    refine x_icmp_ne (tgt := 22) hM h dX12_whyNoPlace_16 (by decide) (fun c_5 h => ?_) (fun c_5 h => ?_)
    · refine lv_aload_n hx hb dX12_whyNoPlace_22 rfl (lv_at hl 0 rfl) ?_
      refine x_gr (r := 37) hM hG xfl_X12_126 xmt_0 (by decide) rfl dX12_whyNoPlace_23 ?_
      refine lv_iload_n hx hb dX12_whyNoPlace_26 rfl (lv_at hl 1 rfl) ?_
      refine x_iald hM hG xmt_37 h dX12_whyNoPlace_27 (fun v_6 h => ?_)
      refine x_if_lt (tgt := 34) hM h dX12_whyNoPlace_28 (by decide) (fun c_7 h => ?_) (fun c_7 h => ?_)
      · refine lv_iload_n hx hb dX12_whyNoPlace_34 rfl (lv_at hl 2 rfl) ?_
        refine lv_iconst (v := (0 : Int32)) hx hb dX12_whyNoPlace_35 (by decide) ?_
        refine lv_aload_n hx hb dX12_whyNoPlace_36 rfl (lv_at hl 0 rfl) ?_
        refine x_gr (r := 38) hM hG xfl_X12_129 xmt_0 (by decide) rfl dX12_whyNoPlace_37 ?_
        refine lv_iload_n hx hb dX12_whyNoPlace_40 rfl (lv_at hl 1 rfl) ?_
        refine x_iald hM hG xmt_38 h dX12_whyNoPlace_41 (fun v_8 h => ?_)
        refine lv_iconst (v := (1 : Int32)) hx hb dX12_whyNoPlace_42 (by decide) ?_
        refine x_isub hM h dX12_whyNoPlace_43 (fun v_9 h => ?_)
        refine x_cSi (As := [.int x2, .int (0 : Int32), .int v_9]) (rest := []) hM hG xml_X12_142 xwt_X12_in h (fun S' v e => c_X12_in hM.2.2.2.2.2.2.1 e _) ⟨Nat.le_of_ble_eq_true rfl, Nat.le_of_ble_eq_true rfl⟩ rfl hl.1 rfl (Nat.le_of_ble_eq_true rfl) dX12_whyNoPlace_44 (fun S_10 v_11 H locs h hG => ?_)
        refine x_if_eq (tgt := 54) hM h dX12_whyNoPlace_47 (by decide) (fun c_12 h => ?_) (fun c_12 h => ?_)
        · refine lv_bipush (v := (-13 : Int32)) hx hb dX12_whyNoPlace_54 (by decide) ?_
          exact x_ri hM hG hr hlk rfl (k0 _ (Option.some.inj h).symm) dX12_whyNoPlace_56
        · refine lv_iconst (v := (0 : Int32)) hx hb dX12_whyNoPlace_50 (by decide) ?_
          refine lv_goto (tgt := 56) hx hb dX12_whyNoPlace_51 (by decide) ?_
          exact x_ri hM hG hr hlk rfl (k0 _ (Option.some.inj h).symm) dX12_whyNoPlace_56
      · refine lv_bipush (v := (-12 : Int32)) hx hb dX12_whyNoPlace_31 (by decide) ?_
        exact x_ri hM hG hr hlk rfl (k0 _ (Option.some.inj h).symm) dX12_whyNoPlace_33
    · refine lv_bipush (v := (-11 : Int32)) hx hb dX12_whyNoPlace_19 (by decide) ?_
      exact x_ri hM hG hr hlk rfl (k0 _ (Option.some.inj h).symm) dX12_whyNoPlace_21
  · refine lv_iconst (v := (-1 : Int32)) hx hb dX12_whyNoPlace_7 (by decide) ?_
    exact x_ri hM hG hr hlk rfl (k0 _ (Option.some.inj h).symm) dX12_whyNoPlace_8
set_option maxHeartbeats 4000000 in
set_option maxRecDepth 100000 in
theorem c_X12_whyNoPlace {l : Launch} {D : va_G} {cy : Nat → ClassId} {a z : Nat → Nat} (hI : xI xmb a) {S : xSt} {x1 : Int32} {x2 : Int32} {S' : xSt} {v' : Int32} (hf : f_X12_whyNoPlace S x1 x2 = some (S', v')) (sz : Nat) : Met l yX12_whyNoPlace (Cond.code yX12_whyNoPlace cX12_whyNoPlace 3 (some .int) :: xTB) ({ frames := 2, cells := 0, slots := 0, locals := 42 } : Room) (va_Pc [.ref (a 0), .int x1, .int x2] (xPre D cy xmb a z S sz)) (xQi D cy xmb a S' v' sz) 0 0 (xA xmb a sz) := by
  refine Met.ofW (cc := cX12_whyNoPlace) (maxL := 3) (ret := (some .int)) (by decide) rfl ?_
  intro p e s m args below meth c s₁ B hml hv
  obtain ⟨rfl, hsz, hP, hK, hE⟩ := hv
  subst hsz
  have hl := lv_entry ([.ref (a 0), .int x1, .int x2]) (n := 3) (Nat.le_of_ble_eq_true rfl)
  rw [lg_entry_eq]
  generalize (lg_sl ([.ref (a 0), .int x1, .int x2]) ++ List.replicate (3 - (lg_sl ([.ref (a 0), .int x1, .int x2])).length) Slot.unset).toArray = ls at hl ⊢
  have hl : lv_has ls 3 [(0, .ref (a 0)), (1, .int x1), (2, .int x2)] := hl
  exact w_X12_whyNoPlace_0 ⟨B.exec, B.bytes, hml, findClass_of_methodNamed B.named, fun w hw => atoms_spec (ws := Cond.code yX12_whyNoPlace cX12_whyNoPlace 3 (some .int) :: xTB) B.pre w (List.mem_cons_of_mem _ hw), hK, hI, hE⟩ B.returns B.notSynchronized hf (fun t0 e => e.symm) ⟨hP, va_S.rf⟩ (lv_sub hl [0, 1, 2] rfl)
set_option maxHeartbeats 4000000 in
set_option maxRecDepth 100000 in
theorem w_X12_put_0 {x1 : Int32} {x2 : Int32} {x3 : Int64} (hM : xM p c cX12_put m s args RX12 7 D cy xmb a z) (hr : meth.sig.returnType = (some .int)) (hlk : meth.locks = false) {S' : xSt} {v' : Int32} {S : xSt} {q : (xSt × Int32)} (h : f_X12_put_0 x1 x2 x3 S = some q) (k0 : ∀ t0 : xSt × Int32, q = t0 → t0 = (S', v')) {H : Heap} {locs : List Loc} (hG : xG D cy xmb a S s H locs) {ls : Array Slot} (hl : lv_has ls 7 [(0, .ref (a 0)), (1, .int x1), (2, .int x2), (3, .long x3)]) : W p l e ({ frames := 3, cells := 0, slots := 0, locals := 64 } : Room) s m args below meth c H locs 0 0 (MQ below (xQi D cy xmb a S' v' s.heap.size) args s 0 0 (xA xmb a s.heap.size)) (F0 m 0 ls []) := by
  have hx := hM.1
  have hb := hM.2.1
  refine lv_aload_n hx hb dX12_put_0 rfl (lv_at hl 0 rfl) ?_
  refine lv_iload_n hx hb dX12_put_1 rfl (lv_at hl 1 rfl) ?_
  refine lv_iload_n hx hb dX12_put_2 rfl (lv_at hl 2 rfl) ?_
  refine x_cVi (As := [.int x1, .int x2]) (rest := []) hM hG xml_X12_456 xwi_X12_whyNoPlace xws_X12_whyNoPlace xmt_0 (by decide) rfl h (fun S' v e => c_X12_whyNoPlace hM.2.2.2.2.2.2.1 e _) ⟨Nat.le_of_ble_eq_true rfl, Nat.le_of_ble_eq_true rfl⟩ rfl hl.1 rfl (Nat.le_of_ble_eq_true rfl) dX12_put_3 (fun S_1 v_2 H locs h hG => ?_)
  refine lv_istore (lv' := [(5, .int v_2), (0, .ref (a 0)), (1, .int x1), (2, .int x2), (3, .long x3)]) hx hb dX12_put_6 hl (by decide) rfl (fun ls hl => ?_)
  refine lv_iload hx hb dX12_put_8 (lv_at hl 0 rfl) ?_
  refine x_if_ge (tgt := 16) hM h dX12_put_10 (by decide) (fun c_3 h => ?_) (fun c_3 h => ?_)
  · refine lv_bipush (v := (-2 : Int32)) hx hb dX12_put_16 (by decide) ?_
    refine lv_aload_n hx hb dX12_put_18 rfl (lv_at hl 1 rfl) ?_
    refine x_gr (r := 37) hM hG xfl_X12_126 xmt_0 (by decide) rfl dX12_put_19 ?_
    refine lv_iload_n hx hb dX12_put_22 rfl (lv_at hl 2 rfl) ?_
    refine x_iald hM hG xmt_37 h dX12_put_23 (fun v_4 h => ?_)
    refine x_isub hM h dX12_put_24 (fun v_5 h => ?_)
    refine lv_istore (lv' := [(6, .int v_5), (5, .int v_2), (0, .ref (a 0)), (1, .int x1), (2, .int x2), (3, .long x3)]) hx hb dX12_put_25 hl (by decide) rfl (fun ls hl => ?_)
    refine lv_aload_n hx hb dX12_put_27 rfl (lv_at hl 2 rfl) ?_
    refine x_gr (r := 39) hM hG xfl_X12_132 xmt_0 (by decide) rfl dX12_put_28 ?_
    refine lv_bipush (v := (60 : Int32)) hx hb dX12_put_31 (by decide) ?_
    refine lv_iload_n hx hb dX12_put_33 rfl (lv_at hl 3 rfl) ?_
    refine x_imul hM h dX12_put_34 (fun v_6 h => ?_)
    refine lv_iload_n hx hb dX12_put_35 rfl (lv_at hl 4 rfl) ?_
    refine x_iadd hM h dX12_put_36 (fun v_7 h => ?_)
    refine lv_iload hx hb dX12_put_37 (lv_at hl 0 rfl) ?_
    refine x_if_ne (tgt := 49) hM h dX12_put_39 (by decide) (fun c_8 h => ?_) (fun c_8 h => ?_)
    · refine lv_iload hx hb dX12_put_49 (lv_at hl 0 rfl) ?_
      refine lv_iconst (v := (1 : Int32)) hx hb dX12_put_51 (by decide) ?_
      refine x_icmp_ne (tgt := 62) hM h dX12_put_52 (by decide) (fun c_9 h => ?_) (fun c_9 h => ?_)
      · refine lv_iload hx hb dX12_put_62 (lv_at hl 0 rfl) ?_
        refine lv_iconst (v := (2 : Int32)) hx hb dX12_put_64 (by decide) ?_
        refine x_icmp_ne (tgt := 74) hM h dX12_put_65 (by decide) (fun c_10 h => ?_) (fun c_10 h => ?_)
        · refine lv_iload hx hb dX12_put_74 (lv_at hl 0 rfl) ?_
          refine lv_iconst (v := (3 : Int32)) hx hb dX12_put_76 (by decide) ?_
          refine x_icmp_ne (tgt := 84) hM h dX12_put_77 (by decide) (fun c_11 h => ?_) (fun c_11 h => ?_)
          · refine lv_lload_n hx hb dX12_put_84 rfl (lv_at hl 5 rfl) ?_
            refine lv_lconst (v := (0 : Int64)) hx hb dX12_put_85 (by decide) ?_
            refine x_lcmp hM h dX12_put_86 (fun v_12 h => ?_)
            refine x_if_eq (tgt := 94) hM h dX12_put_87 (by decide) (fun c_13 h => ?_) (fun c_13 h => ?_)
            · refine lv_lconst (v := (0 : Int64)) hx hb dX12_put_94 (by decide) ?_
              refine x_last hM hG xmt_39 h dX12_put_95 (fun S_14 H locs h hG => ?_)
              refine lv_iconst (v := (1 : Int32)) hx hb dX12_put_96 (by decide) ?_
              exact x_ri hM hG hr hlk rfl (k0 _ (Option.some.inj h).symm) dX12_put_97
            · refine lv_lconst (v := (1 : Int64)) hx hb dX12_put_90 (by decide) ?_
              refine lv_goto (tgt := 95) hx hb dX12_put_91 (by decide) ?_
              refine x_last hM hG xmt_39 h dX12_put_95 (fun S_15 H locs h hG => ?_)
              refine lv_iconst (v := (1 : Int32)) hx hb dX12_put_96 (by decide) ?_
              exact x_ri hM hG hr hlk rfl (k0 _ (Option.some.inj h).symm) dX12_put_97
          · refine lv_lload_n hx hb dX12_put_80 rfl (lv_at hl 5 rfl) ?_
            refine lv_goto (tgt := 95) hx hb dX12_put_81 (by decide) ?_
            refine x_last hM hG xmt_39 h dX12_put_95 (fun S_16 H locs h hG => ?_)
            refine lv_iconst (v := (1 : Int32)) hx hb dX12_put_96 (by decide) ?_
            exact x_ri hM hG hr hlk rfl (k0 _ (Option.some.inj h).symm) dX12_put_97
        · refine lv_lload_n hx hb dX12_put_68 rfl (lv_at hl 5 rfl) ?_
          refine x_l2i hM h dX12_put_69 (fun v_17 h => ?_)
          refine x_i2l hM h dX12_put_70 (fun v_18 h => ?_)
          refine lv_goto (tgt := 95) hx hb dX12_put_71 (by decide) ?_
          refine x_last hM hG xmt_39 h dX12_put_95 (fun S_19 H locs h hG => ?_)
          refine lv_iconst (v := (1 : Int32)) hx hb dX12_put_96 (by decide) ?_
          exact x_ri hM hG hr hlk rfl (k0 _ (Option.some.inj h).symm) dX12_put_97
      · refine lv_lload_n hx hb dX12_put_55 rfl (lv_at hl 5 rfl) ?_
        refine x_l2i hM h dX12_put_56 (fun v_20 h => ?_)
        refine x_i2s hM h dX12_put_57 (fun v_21 h => ?_)
        refine x_i2l hM h dX12_put_58 (fun v_22 h => ?_)
        refine lv_goto (tgt := 95) hx hb dX12_put_59 (by decide) ?_
        refine x_last hM hG xmt_39 h dX12_put_95 (fun S_23 H locs h hG => ?_)
        refine lv_iconst (v := (1 : Int32)) hx hb dX12_put_96 (by decide) ?_
        exact x_ri hM hG hr hlk rfl (k0 _ (Option.some.inj h).symm) dX12_put_97
    · refine lv_lload_n hx hb dX12_put_42 rfl (lv_at hl 5 rfl) ?_
      refine x_l2i hM h dX12_put_43 (fun v_24 h => ?_)
      refine x_i2b hM h dX12_put_44 (fun v_25 h => ?_)
      refine x_i2l hM h dX12_put_45 (fun v_26 h => ?_)
      refine lv_goto (tgt := 95) hx hb dX12_put_46 (by decide) ?_
      refine x_last hM hG xmt_39 h dX12_put_95 (fun S_27 H locs h hG => ?_)
      refine lv_iconst (v := (1 : Int32)) hx hb dX12_put_96 (by decide) ?_
      exact x_ri hM hG hr hlk rfl (k0 _ (Option.some.inj h).symm) dX12_put_97
  · refine lv_iload hx hb dX12_put_13 (lv_at hl 0 rfl) ?_
    exact x_ri hM hG hr hlk rfl (k0 _ (Option.some.inj h).symm) dX12_put_15
set_option maxHeartbeats 4000000 in
set_option maxRecDepth 100000 in
theorem c_X12_put {l : Launch} {D : va_G} {cy : Nat → ClassId} {a z : Nat → Nat} (hI : xI xmb a) {S : xSt} {x1 : Int32} {x2 : Int32} {x3 : Int64} {S' : xSt} {v' : Int32} (hf : f_X12_put S x1 x2 x3 = some (S', v')) (sz : Nat) : Met l yX12_put (Cond.code yX12_put cX12_put 7 (some .int) :: xTB) ({ frames := 3, cells := 0, slots := 0, locals := 64 } : Room) (va_Pc [.ref (a 0), .int x1, .int x2, .long x3] (xPre D cy xmb a z S sz)) (xQi D cy xmb a S' v' sz) 0 0 (xA xmb a sz) := by
  refine Met.ofW (cc := cX12_put) (maxL := 7) (ret := (some .int)) (by decide) rfl ?_
  intro p e s m args below meth c s₁ B hml hv
  obtain ⟨rfl, hsz, hP, hK, hE⟩ := hv
  subst hsz
  have hl := lv_entry ([.ref (a 0), .int x1, .int x2, .long x3]) (n := 7) (Nat.le_of_ble_eq_true rfl)
  rw [lg_entry_eq]
  generalize (lg_sl ([.ref (a 0), .int x1, .int x2, .long x3]) ++ List.replicate (7 - (lg_sl ([.ref (a 0), .int x1, .int x2, .long x3])).length) Slot.unset).toArray = ls at hl ⊢
  have hl : lv_has ls 7 [(0, .ref (a 0)), (1, .int x1), (2, .int x2), (3, .long x3)] := hl
  exact w_X12_put_0 ⟨B.exec, B.bytes, hml, findClass_of_methodNamed B.named, fun w hw => atoms_spec (ws := Cond.code yX12_put cX12_put 7 (some .int) :: xTB) B.pre w (List.mem_cons_of_mem _ hw), hK, hI, hE⟩ B.returns B.notSynchronized hf (fun t0 e => e.symm) ⟨hP, va_S.rf⟩ (lv_sub hl [0, 1, 2, 3] rfl)
set_option maxHeartbeats 4000000 in
set_option maxRecDepth 100000 in
theorem w_X12_element_0 {x1 : Int32} {x2 : Int32} (hM : xM p c cX12_element m s args RX12 3 D cy xmb a z) (hr : meth.sig.returnType = (some .long)) (hlk : meth.locks = false) {S' : xSt} {v' : Int64} {S : xSt} {q : (xSt × Int64)} (h : f_X12_element_0 x1 x2 S = some q) (k0 : ∀ t0 : xSt × Int64, q = t0 → t0 = (S', v')) {H : Heap} {locs : List Loc} (hG : xG D cy xmb a S s H locs) {ls : Array Slot} (hl : lv_has ls 3 [(0, .ref (a 0)), (1, .int x1), (2, .int x2)]) : W p l e ({ frames := 3, cells := 0, slots := 0, locals := 64 } : Room) s m args below meth c H locs 0 0 (MQ below (xQl D cy xmb a S' v' s.heap.size) args s 0 0 (xA xmb a s.heap.size)) (F0 m 0 ls []) := by
  have hx := hM.1
  have hb := hM.2.1
  refine lv_aload_n hx hb dX12_element_0 rfl (lv_at hl 0 rfl) ?_
  refine lv_iload_n hx hb dX12_element_1 rfl (lv_at hl 1 rfl) ?_
  refine lv_iload_n hx hb dX12_element_2 rfl (lv_at hl 2 rfl) ?_
  refine x_cVi (As := [.int x1, .int x2]) (rest := []) hM hG xml_X12_456 xwi_X12_whyNoPlace xws_X12_whyNoPlace xmt_0 (by decide) rfl h (fun S' v e => c_X12_whyNoPlace hM.2.2.2.2.2.2.1 e _) ⟨Nat.le_of_ble_eq_true rfl, Nat.le_of_ble_eq_true rfl⟩ rfl hl.1 rfl (Nat.le_of_ble_eq_true rfl) dX12_element_3 (fun S_1 v_2 H locs h hG => ?_)
  refine x_if_ge (tgt := 15) hM h dX12_element_6 (by decide) (fun c_3 h => ?_) (fun c_3 h => ?_)
  · refine lv_aload_n hx hb dX12_element_15 rfl (lv_at hl 0 rfl) ?_
    refine x_gr (r := 39) hM hG xfl_X12_132 xmt_0 (by decide) rfl dX12_element_16 ?_
    refine lv_bipush (v := (60 : Int32)) hx hb dX12_element_19 (by decide) ?_
    refine lv_iload_n hx hb dX12_element_21 rfl (lv_at hl 1 rfl) ?_
    refine x_imul hM h dX12_element_22 (fun v_4 h => ?_)
    refine lv_iload_n hx hb dX12_element_23 rfl (lv_at hl 2 rfl) ?_
    refine x_iadd hM h dX12_element_24 (fun v_5 h => ?_)
    refine x_lald hM hG xmt_39 h dX12_element_25 (fun v_6 h => ?_)
    exact x_rl hM hG hr hlk (k0 _ (Option.some.inj h).symm) dX12_element_26
  · refine lv_ldc2 (v := (-9223372036854775808 : Int64)) hx hb hM.2.2.2.1 (hM.2.2.2.2.1 _ xcn_X12_324) dX12_element_9 ?_
    refine lv_goto (tgt := 26) hx hb dX12_element_12 (by decide) ?_
    exact x_rl hM hG hr hlk (k0 _ (Option.some.inj h).symm) dX12_element_26
set_option maxHeartbeats 4000000 in
set_option maxRecDepth 100000 in
theorem c_X12_element {l : Launch} {D : va_G} {cy : Nat → ClassId} {a z : Nat → Nat} (hI : xI xmb a) {S : xSt} {x1 : Int32} {x2 : Int32} {S' : xSt} {v' : Int64} (hf : f_X12_element S x1 x2 = some (S', v')) (sz : Nat) : Met l yX12_element (Cond.code yX12_element cX12_element 3 (some .long) :: xTB) ({ frames := 3, cells := 0, slots := 0, locals := 64 } : Room) (va_Pc [.ref (a 0), .int x1, .int x2] (xPre D cy xmb a z S sz)) (xQl D cy xmb a S' v' sz) 0 0 (xA xmb a sz) := by
  refine Met.ofW (cc := cX12_element) (maxL := 3) (ret := (some .long)) (by decide) rfl ?_
  intro p e s m args below meth c s₁ B hml hv
  obtain ⟨rfl, hsz, hP, hK, hE⟩ := hv
  subst hsz
  have hl := lv_entry ([.ref (a 0), .int x1, .int x2]) (n := 3) (Nat.le_of_ble_eq_true rfl)
  rw [lg_entry_eq]
  generalize (lg_sl ([.ref (a 0), .int x1, .int x2]) ++ List.replicate (3 - (lg_sl ([.ref (a 0), .int x1, .int x2])).length) Slot.unset).toArray = ls at hl ⊢
  have hl : lv_has ls 3 [(0, .ref (a 0)), (1, .int x1), (2, .int x2)] := hl
  exact w_X12_element_0 ⟨B.exec, B.bytes, hml, findClass_of_methodNamed B.named, fun w hw => atoms_spec (ws := Cond.code yX12_element cX12_element 3 (some .long) :: xTB) B.pre w (List.mem_cons_of_mem _ hw), hK, hI, hE⟩ B.returns B.notSynchronized hf (fun t0 e => e.symm) ⟨hP, va_S.rf⟩ (lv_sub hl [0, 1, 2] rfl)
set_option maxHeartbeats 4000000 in
set_option maxRecDepth 100000 in
theorem w_X12_shift_150 {x3 : Int32} {x4 : Int32} {x5 : Int32} {x6 : Int32} (hM : xM p c cX12_shift m s args RX12 7 D cy xmb a z) (hr : meth.sig.returnType = (some .int)) (hlk : meth.locks = false) {S' : xSt} {v' : Int32} {S : xSt} {q : ((xSt × Int32) ⊕ (xSt × Int32))} (h : f_X12_shift_150 x3 x4 x5 S x6 = some q) (k0 : ∀ t0 : xSt × Int32, q = (.inr t0) → t0 = (S', v')) (k1 : ∀ (S : xSt) (x6 : Int32), q = (.inl (S, x6)) → ∀ (H : Heap) (locs : List Loc) (ls : Array Slot), xG D cy xmb a S s H locs → lv_has ls 7 [(0, .ref (a 0)), (3, .int x3), (4, .int x4), (5, .int x5), (6, .int x6)] → W p l e ({ frames := 2, cells := 0, slots := 0, locals := 42 } : Room) s m args below meth c H locs 0 0 (MQ below (xQi D cy xmb a S' v' s.heap.size) args s 0 0 (xA xmb a s.heap.size)) (F0 m 150 ls [])) {H : Heap} {locs : List Loc} (hG : xG D cy xmb a S s H locs) {ls : Array Slot} (hl : lv_has ls 7 [(0, .ref (a 0)), (3, .int x3), (4, .int x4), (5, .int x5), (6, .int x6)]) : W p l e ({ frames := 2, cells := 0, slots := 0, locals := 42 } : Room) s m args below meth c H locs 0 0 (MQ below (xQi D cy xmb a S' v' s.heap.size) args s 0 0 (xA xmb a s.heap.size)) (F0 m 150 ls []) := by
  have hx := hM.1
  have hb := hM.2.1
  refine lv_iload hx hb dX12_shift_150 (lv_at hl 4 rfl) ?_
  refine lv_iload hx hb dX12_shift_152 (lv_at hl 3 rfl) ?_
  refine x_icmp_ge (tgt := 185) hM h dX12_shift_154 (by decide) (fun c_1 h => ?_) (fun c_1 h => ?_)
  · refine lv_iload hx hb dX12_shift_185 (lv_at hl 3 rfl) ?_
    exact x_ri hM hG hr hlk rfl (k0 _ (Option.some.inj h).symm) dX12_shift_187
  · refine lv_aload_n hx hb dX12_shift_157 rfl (lv_at hl 0 rfl) ?_
    refine x_gr (r := 39) hM hG xfl_X12_132 xmt_0 (by decide) rfl dX12_shift_158 ?_
    refine lv_bipush (v := (60 : Int32)) hx hb dX12_shift_161 (by decide) ?_
    refine lv_iload_n hx hb dX12_shift_163 rfl (lv_at hl 1 rfl) ?_
    refine x_imul hM h dX12_shift_164 (fun v_2 h => ?_)
    refine lv_iload hx hb dX12_shift_165 (lv_at hl 2 rfl) ?_
    refine x_iadd hM h dX12_shift_167 (fun v_3 h => ?_)
    refine lv_iload hx hb dX12_shift_168 (lv_at hl 4 rfl) ?_
    refine x_iadd hM h dX12_shift_170 (fun v_4 h => ?_)
    refine lv_aload_n hx hb dX12_shift_171 rfl (lv_at hl 0 rfl) ?_
    refine x_gr (r := 40) hM hG xfl_X12_136 xmt_0 (by decide) rfl dX12_shift_172 ?_
    refine lv_iload hx hb dX12_shift_175 (lv_at hl 4 rfl) ?_
    refine x_lald hM hG xmt_40 h dX12_shift_177 (fun v_5 h => ?_)
    refine x_last hM hG xmt_39 h dX12_shift_178 (fun S_6 H locs h hG => ?_)
    refine x_iinc hM (fun v => [(6, .int v), (0, .ref (a 0)), (3, .int x3), (4, .int x4), (5, .int x5)]) h dX12_shift_179 hl (k := 4) rfl (by decide) (by decide) (fun _ => rfl) (fun v_7 ls h hl => ?_)
    refine lv_goto (tgt := 150) hx hb dX12_shift_182 (by decide) ?_
    exact k1 _ _ (Option.some.inj h).symm _ _ _ hG (lv_sub hl [1, 2, 3, 4, 0] rfl)
theorem wl_X12_shift_150 {x3 : Int32} {x4 : Int32} {x5 : Int32} (hM : xM p c cX12_shift m s args RX12 7 D cy xmb a z) (hr : meth.sig.returnType = (some .int)) (hlk : meth.locks = false) {S' : xSt} {v' : Int32} {q : (xSt × Int32)} (k0 : ∀ t0 : xSt × Int32, q = t0 → t0 = (S', v')) (n : Nat) : ∀ (S : xSt) (x6 : Int32) (H : Heap) (locs : List Loc) (ls : Array Slot), xlp (fun q : (xSt × Int32) => f_X12_shift_150 x3 x4 x5 q.1 q.2) n (S, x6) = some q → xG D cy xmb a S s H locs → lv_has ls 7 [(0, .ref (a 0)), (3, .int x3), (4, .int x4), (5, .int x5), (6, .int x6)] → W p l e ({ frames := 2, cells := 0, slots := 0, locals := 42 } : Room) s m args below meth c H locs 0 0 (MQ below (xQi D cy xmb a S' v' s.heap.size) args s 0 0 (xA xmb a s.heap.size)) (F0 m 150 ls []) := by
  induction n with
  | zero => intro S x6 H locs ls h; exact (xlp_0 h).elim
  | succ n ih =>
    intro S x6 H locs ls h hG hl
    obtain ⟨q1, hq, hc, he⟩ := xlp_at h
    exact w_X12_shift_150 hM hr hlk (q := q1) hq (fun t0 e => k0 t0 (he _ e).symm) (fun S x6 e H locs ls hG hl => ih S x6 H locs ls (hc _ e) hG hl) hG hl
set_option maxHeartbeats 4000000 in
set_option maxRecDepth 100000 in
theorem w_X12_shift_147 {x3 : Int32} {x4 : Int32} {x5 : Int32} (hM : xM p c cX12_shift m s args RX12 7 D cy xmb a z) (hr : meth.sig.returnType = (some .int)) (hlk : meth.locks = false) {S' : xSt} {v' : Int32} {S : xSt} {q : (xSt × Int32)} (h : f_X12_shift_147 x3 x4 x5 S = some q) (k0 : ∀ t0 : xSt × Int32, q = t0 → t0 = (S', v')) {H : Heap} {locs : List Loc} (hG : xG D cy xmb a S s H locs) {ls : Array Slot} (hl : lv_has ls 7 [(0, .ref (a 0)), (3, .int x3), (4, .int x4), (5, .int x5)]) : W p l e ({ frames := 2, cells := 0, slots := 0, locals := 42 } : Room) s m args below meth c H locs 0 0 (MQ below (xQi D cy xmb a S' v' s.heap.size) args s 0 0 (xA xmb a s.heap.size)) (F0 m 147 ls []) := by
  have hx := hM.1
  have hb := hM.2.1
  refine lv_iconst (v := (0 : Int32)) hx hb dX12_shift_147 (by decide) ?_
  refine lv_istore (lv' := [(6, .int (0 : Int32)), (0, .ref (a 0)), (3, .int x3), (4, .int x4), (5, .int x5)]) hx hb dX12_shift_148 hl (by decide) rfl (fun ls hl => ?_)
  exact wl_X12_shift_150 hM hr hlk (fun t0 e => k0 t0 e) 5000 _ _ _ _ _ h hG (lv_sub hl [1, 2, 3, 4, 0] rfl)
set_option maxHeartbeats 4000000 in
set_option maxRecDepth 100000 in
theorem w_X12_shift_113 {x1 : Int32} {x2 : Int32} {x3 : Int32} {x4 : Int32} {x5 : Int32} {x6 : Int32} (hM : xM p c cX12_shift m s args RX12 7 D cy xmb a z) (hr : meth.sig.returnType = (some .int)) (hlk : meth.locks = false) {S' : xSt} {v' : Int32} {S : xSt} {q : ((xSt × Int32) ⊕ (xSt × Int32))} (h : f_X12_shift_113 x1 x2 x3 x4 x5 S x6 = some q) (k0 : ∀ t0 : xSt × Int32, q = (.inr t0) → t0 = (S', v')) (k1 : ∀ (S : xSt) (x6 : Int32), q = (.inl (S, x6)) → ∀ (H : Heap) (locs : List Loc) (ls : Array Slot), xG D cy xmb a S s H locs → lv_has ls 7 [(0, .ref (a 0)), (1, .int x1), (2, .int x2), (3, .int x3), (4, .int x4), (5, .int x5), (6, .int x6)] → W p l e ({ frames := 2, cells := 0, slots := 0, locals := 42 } : Room) s m args below meth c H locs 0 0 (MQ below (xQi D cy xmb a S' v' s.heap.size) args s 0 0 (xA xmb a s.heap.size)) (F0 m 113 ls [])) {H : Heap} {locs : List Loc} (hG : xG D cy xmb a S s H locs) {ls : Array Slot} (hl : lv_has ls 7 [(0, .ref (a 0)), (1, .int x1), (2, .int x2), (3, .int x3), (4, .int x4), (5, .int x5), (6, .int x6)]) : W p l e ({ frames := 2, cells := 0, slots := 0, locals := 42 } : Room) s m args below meth c H locs 0 0 (MQ below (xQi D cy xmb a S' v' s.heap.size) args s 0 0 (xA xmb a s.heap.size)) (F0 m 113 ls []) := by
  have hx := hM.1
  have hb := hM.2.1
  refine lv_iload hx hb dX12_shift_113 (lv_at hl 6 rfl) ?_
  refine lv_iload hx hb dX12_shift_115 (lv_at hl 5 rfl) ?_
  refine x_icmp_ge (tgt := 147) hM h dX12_shift_117 (by decide) (fun c_1 h => ?_) (fun c_1 h => ?_)
  · obtain ⟨q1, h, e1⟩ := xmr_at h
    exact w_X12_shift_147 hM hr hlk h (fun t0 e => k0 t0 (by rw [e1, e])) hG (lv_sub hl [0, 3, 4, 5] rfl)
  · refine lv_aload_n hx hb dX12_shift_120 rfl (lv_at hl 0 rfl) ?_
    refine x_gr (r := 40) hM hG xfl_X12_136 xmt_0 (by decide) rfl dX12_shift_121 ?_
    refine lv_iload hx hb dX12_shift_124 (lv_at hl 6 rfl) ?_
    refine lv_aload_n hx hb dX12_shift_126 rfl (lv_at hl 0 rfl) ?_
    refine x_gr (r := 39) hM hG xfl_X12_132 xmt_0 (by decide) rfl dX12_shift_127 ?_
    refine lv_bipush (v := (60 : Int32)) hx hb dX12_shift_130 (by decide) ?_
    refine lv_iload_n hx hb dX12_shift_132 rfl (lv_at hl 1 rfl) ?_
    refine x_imul hM h dX12_shift_133 (fun v_2 h => ?_)
    refine lv_iload_n hx hb dX12_shift_134 rfl (lv_at hl 2 rfl) ?_
    refine x_iadd hM h dX12_shift_135 (fun v_3 h => ?_)
    refine lv_iload hx hb dX12_shift_136 (lv_at hl 6 rfl) ?_
    refine x_iadd hM h dX12_shift_138 (fun v_4 h => ?_)
    refine x_lald hM hG xmt_39 h dX12_shift_139 (fun v_5 h => ?_)
    refine x_last hM hG xmt_40 h dX12_shift_140 (fun S_6 H locs h hG => ?_)
    refine x_iinc hM (fun v => [(6, .int v), (0, .ref (a 0)), (1, .int x1), (2, .int x2), (3, .int x3), (4, .int x4), (5, .int x5)]) h dX12_shift_141 hl (k := 6) rfl (by decide) (by decide) (fun _ => rfl) (fun v_7 ls h hl => ?_)
    refine lv_goto (tgt := 113) hx hb dX12_shift_144 (by decide) ?_
    exact k1 _ _ (Option.some.inj h).symm _ _ _ hG (lv_sub hl [1, 2, 3, 4, 5, 6, 0] rfl)
theorem wl_X12_shift_113 {x1 : Int32} {x2 : Int32} {x3 : Int32} {x4 : Int32} {x5 : Int32} (hM : xM p c cX12_shift m s args RX12 7 D cy xmb a z) (hr : meth.sig.returnType = (some .int)) (hlk : meth.locks = false) {S' : xSt} {v' : Int32} {q : (xSt × Int32)} (k0 : ∀ t0 : xSt × Int32, q = t0 → t0 = (S', v')) (n : Nat) : ∀ (S : xSt) (x6 : Int32) (H : Heap) (locs : List Loc) (ls : Array Slot), xlp (fun q : (xSt × Int32) => f_X12_shift_113 x1 x2 x3 x4 x5 q.1 q.2) n (S, x6) = some q → xG D cy xmb a S s H locs → lv_has ls 7 [(0, .ref (a 0)), (1, .int x1), (2, .int x2), (3, .int x3), (4, .int x4), (5, .int x5), (6, .int x6)] → W p l e ({ frames := 2, cells := 0, slots := 0, locals := 42 } : Room) s m args below meth c H locs 0 0 (MQ below (xQi D cy xmb a S' v' s.heap.size) args s 0 0 (xA xmb a s.heap.size)) (F0 m 113 ls []) := by
  induction n with
  | zero => intro S x6 H locs ls h; exact (xlp_0 h).elim
  | succ n ih =>
    intro S x6 H locs ls h hG hl
    obtain ⟨q1, hq, hc, he⟩ := xlp_at h
    exact w_X12_shift_113 hM hr hlk (q := q1) hq (fun t0 e => k0 t0 (he _ e).symm) (fun S x6 e H locs ls hG hl => ih S x6 H locs ls (hc _ e) hG hl) hG hl
set_option maxHeartbeats 4000000 in
set_option maxRecDepth 100000 in
theorem w_X12_shift_0 {x1 : Int32} {x2 : Int32} {x3 : Int32} {x4 : Int32} {x5 : Int32} (hM : xM p c cX12_shift m s args RX12 7 D cy xmb a z) (hr : meth.sig.returnType = (some .int)) (hlk : meth.locks = false) {S' : xSt} {v' : Int32} {S : xSt} {q : (xSt × Int32)} (h : f_X12_shift_0 x1 x2 x3 x4 x5 S = some q) (k0 : ∀ t0 : xSt × Int32, q = t0 → t0 = (S', v')) {H : Heap} {locs : List Loc} (hG : xG D cy xmb a S s H locs) {ls : Array Slot} (hl : lv_has ls 7 [(0, .ref (a 0)), (1, .int x1), (2, .int x2), (3, .int x3), (4, .int x4), (5, .int x5)]) : W p l e ({ frames := 2, cells := 0, slots := 0, locals := 42 } : Room) s m args below meth c H locs 0 0 (MQ below (xQi D cy xmb a S' v' s.heap.size) args s 0 0 (xA xmb a s.heap.size)) (F0 m 0 ls []) := by
  have hx := hM.1
  have hb := hM.2.1
  refine lv_iload_n hx hb dX12_shift_0 rfl (lv_at hl 1 rfl) ?_
  refine x_cSi (As := [.int x1]) (rest := []) hM hG xml_X12_154 xwt_X12_isShelf h (fun S' v e => c_X12_isShelf hM.2.2.2.2.2.2.1 e _) ⟨Nat.le_of_ble_eq_true rfl, Nat.le_of_ble_eq_true rfl⟩ rfl hl.1 rfl (Nat.le_of_ble_eq_true rfl) dX12_shift_1 (fun S_1 v_2 H locs h hG => ?_)
  refine x_if_eq (tgt := 14) hM h dX12_shift_4 (by decide) (fun c_3 h => ?_) (fun c_3 h => ?_)
  · refine lv_iconst (v := (-1 : Int32)) hx hb dX12_shift_14 (by decide) ?_
    exact x_ri hM hG hr hlk rfl (k0 _ (Option.some.inj h).symm) dX12_shift_15
  · refine lv_iload_n hx hb dX12_shift_7 rfl (lv_at hl 3 rfl) ?_
    refine x_cSi (As := [.int x3]) (rest := []) hM hG xml_X12_154 xwt_X12_isShelf h (fun S' v e => c_X12_isShelf hM.2.2.2.2.2.2.1 e _) ⟨Nat.le_of_ble_eq_true rfl, Nat.le_of_ble_eq_true rfl⟩ rfl hl.1 rfl (Nat.le_of_ble_eq_true rfl) dX12_shift_8 (fun S_4 v_5 H locs h hG => ?_)
    refine x_if_ne (tgt := 16) hM h dX12_shift_11 (by decide) (fun c_6 h => ?_) (fun c_6 h => ?_)
    · refine lv_aload_n hx hb dX12_shift_16 rfl (lv_at hl 0 rfl) ?_
      refine x_gr (r := 37) hM hG xfl_X12_126 xmt_0 (by decide) rfl dX12_shift_17 ?_
      refine lv_iload_n hx hb dX12_shift_20 rfl (lv_at hl 1 rfl) ?_
      refine x_iald hM hG xmt_37 h dX12_shift_21 (fun v_7 h => ?_)
      refine lv_iconst (v := (-1 : Int32)) hx hb dX12_shift_22 (by decide) ?_
      refine x_icmp_eq (tgt := 36) hM h dX12_shift_23 (by decide) (fun c_8 h => ?_) (fun c_8 h => ?_)
      · refine lv_bipush (v := (-11 : Int32)) hx hb dX12_shift_36 (by decide) ?_
        exact x_ri hM hG hr hlk rfl (k0 _ (Option.some.inj h).symm) dX12_shift_38
      · refine lv_aload_n hx hb dX12_shift_26 rfl (lv_at hl 0 rfl) ?_
        refine x_gr (r := 37) hM hG xfl_X12_126 xmt_0 (by decide) rfl dX12_shift_27 ?_
        refine lv_iload_n hx hb dX12_shift_30 rfl (lv_at hl 3 rfl) ?_
        refine x_iald hM hG xmt_37 h dX12_shift_31 (fun v_9 h => ?_)
        refine lv_iconst (v := (-1 : Int32)) hx hb dX12_shift_32 (by decide) ?_
        refine x_icmp_ne (tgt := 39) hM h dX12_shift_33 (by decide) (fun c_10 h => ?_) (fun c_10 h => ?_)
        · refine lv_aload_n hx hb dX12_shift_39 rfl (lv_at hl 0 rfl) ?_
          refine x_gr (r := 37) hM hG xfl_X12_126 xmt_0 (by decide) rfl dX12_shift_40 ?_
          refine lv_iload_n hx hb dX12_shift_43 rfl (lv_at hl 1 rfl) ?_
          refine x_iald hM hG xmt_37 h dX12_shift_44 (fun v_11 h => ?_)
          refine x_if_ge (tgt := 63) hM h dX12_shift_45 (by decide) (fun c_12 h => ?_) (fun c_12 h => ?_)
          · refine lv_bipush (v := (-12 : Int32)) hx hb dX12_shift_63 (by decide) ?_
            exact x_ri hM hG hr hlk rfl (k0 _ (Option.some.inj h).symm) dX12_shift_65
          · refine lv_aload_n hx hb dX12_shift_48 rfl (lv_at hl 0 rfl) ?_
            refine x_gr (r := 37) hM hG xfl_X12_126 xmt_0 (by decide) rfl dX12_shift_49 ?_
            refine lv_iload_n hx hb dX12_shift_52 rfl (lv_at hl 1 rfl) ?_
            refine x_iald hM hG xmt_37 h dX12_shift_53 (fun v_13 h => ?_)
            refine lv_aload_n hx hb dX12_shift_54 rfl (lv_at hl 0 rfl) ?_
            refine x_gr (r := 37) hM hG xfl_X12_126 xmt_0 (by decide) rfl dX12_shift_55 ?_
            refine lv_iload_n hx hb dX12_shift_58 rfl (lv_at hl 3 rfl) ?_
            refine x_iald hM hG xmt_37 h dX12_shift_59 (fun v_14 h => ?_)
            refine x_icmp_eq (tgt := 66) hM h dX12_shift_60 (by decide) (fun c_15 h => ?_) (fun c_15 h => ?_)
            · refine lv_iload hx hb dX12_shift_66 (lv_at hl 5 rfl) ?_
              refine x_if_lt (tgt := 107) hM h dX12_shift_68 (by decide) (fun c_16 h => ?_) (fun c_16 h => ?_)
              · refine lv_bipush (v := (-13 : Int32)) hx hb dX12_shift_107 (by decide) ?_
                exact x_ri hM hG hr hlk rfl (k0 _ (Option.some.inj h).symm) dX12_shift_109
              · refine lv_iload_n hx hb dX12_shift_71 rfl (lv_at hl 2 rfl) ?_
                refine x_if_lt (tgt := 107) hM h dX12_shift_72 (by decide) (fun c_17 h => ?_) (fun c_17 h => ?_)
                · refine lv_bipush (v := (-13 : Int32)) hx hb dX12_shift_107 (by decide) ?_
                  exact x_ri hM hG hr hlk rfl (k0 _ (Option.some.inj h).symm) dX12_shift_109
                · refine lv_iload hx hb dX12_shift_75 (lv_at hl 4 rfl) ?_
                  refine x_if_lt (tgt := 107) hM h dX12_shift_77 (by decide) (fun c_18 h => ?_) (fun c_18 h => ?_)
                  · refine lv_bipush (v := (-13 : Int32)) hx hb dX12_shift_107 (by decide) ?_
                    exact x_ri hM hG hr hlk rfl (k0 _ (Option.some.inj h).symm) dX12_shift_109
                  · refine lv_iload_n hx hb dX12_shift_80 rfl (lv_at hl 2 rfl) ?_
                    refine lv_aload_n hx hb dX12_shift_81 rfl (lv_at hl 0 rfl) ?_
                    refine x_gr (r := 38) hM hG xfl_X12_129 xmt_0 (by decide) rfl dX12_shift_82 ?_
                    refine lv_iload_n hx hb dX12_shift_85 rfl (lv_at hl 1 rfl) ?_
                    refine x_iald hM hG xmt_38 h dX12_shift_86 (fun v_19 h => ?_)
                    refine lv_iload hx hb dX12_shift_87 (lv_at hl 5 rfl) ?_
                    refine x_isub hM h dX12_shift_89 (fun v_20 h => ?_)
                    refine x_icmp_gt (tgt := 107) hM h dX12_shift_90 (by decide) (fun c_21 h => ?_) (fun c_21 h => ?_)
                    · refine lv_bipush (v := (-13 : Int32)) hx hb dX12_shift_107 (by decide) ?_
                      exact x_ri hM hG hr hlk rfl (k0 _ (Option.some.inj h).symm) dX12_shift_109
                    · refine lv_iload hx hb dX12_shift_93 (lv_at hl 4 rfl) ?_
                      refine lv_aload_n hx hb dX12_shift_95 rfl (lv_at hl 0 rfl) ?_
                      refine x_gr (r := 38) hM hG xfl_X12_129 xmt_0 (by decide) rfl dX12_shift_96 ?_
                      refine lv_iload_n hx hb dX12_shift_99 rfl (lv_at hl 3 rfl) ?_
                      refine x_iald hM hG xmt_38 h dX12_shift_100 (fun v_22 h => ?_)
                      refine lv_iload hx hb dX12_shift_101 (lv_at hl 5 rfl) ?_
                      refine x_isub hM h dX12_shift_103 (fun v_23 h => ?_)
                      refine x_icmp_le (tgt := 110) hM h dX12_shift_104 (by decide) (fun c_24 h => ?_) (fun c_24 h => ?_)
                      · refine lv_iconst (v := (0 : Int32)) hx hb dX12_shift_110 (by decide) ?_
                        refine lv_istore (lv' := [(6, .int (0 : Int32)), (0, .ref (a 0)), (1, .int x1), (2, .int x2), (3, .int x3), (4, .int x4), (5, .int x5)]) hx hb dX12_shift_111 hl (by decide) rfl (fun ls hl => ?_)
                        exact wl_X12_shift_113 hM hr hlk (fun t0 e => k0 t0 e) 5000 _ _ _ _ _ h hG (lv_sub hl [1, 2, 3, 4, 5, 6, 0] rfl)
                      · refine lv_bipush (v := (-13 : Int32)) hx hb dX12_shift_107 (by decide) ?_
                        exact x_ri hM hG hr hlk rfl (k0 _ (Option.some.inj h).symm) dX12_shift_109
            · refine lv_bipush (v := (-12 : Int32)) hx hb dX12_shift_63 (by decide) ?_
              exact x_ri hM hG hr hlk rfl (k0 _ (Option.some.inj h).symm) dX12_shift_65
        · refine lv_bipush (v := (-11 : Int32)) hx hb dX12_shift_36 (by decide) ?_
          exact x_ri hM hG hr hlk rfl (k0 _ (Option.some.inj h).symm) dX12_shift_38
    · refine lv_iconst (v := (-1 : Int32)) hx hb dX12_shift_14 (by decide) ?_
      exact x_ri hM hG hr hlk rfl (k0 _ (Option.some.inj h).symm) dX12_shift_15
set_option maxHeartbeats 4000000 in
set_option maxRecDepth 100000 in
theorem c_X12_shift {l : Launch} {D : va_G} {cy : Nat → ClassId} {a z : Nat → Nat} (hI : xI xmb a) {S : xSt} {x1 : Int32} {x2 : Int32} {x3 : Int32} {x4 : Int32} {x5 : Int32} {S' : xSt} {v' : Int32} (hf : f_X12_shift S x1 x2 x3 x4 x5 = some (S', v')) (sz : Nat) : Met l yX12_shift (Cond.code yX12_shift cX12_shift 7 (some .int) :: xTB) ({ frames := 2, cells := 0, slots := 0, locals := 42 } : Room) (va_Pc [.ref (a 0), .int x1, .int x2, .int x3, .int x4, .int x5] (xPre D cy xmb a z S sz)) (xQi D cy xmb a S' v' sz) 0 0 (xA xmb a sz) := by
  refine Met.ofW (cc := cX12_shift) (maxL := 7) (ret := (some .int)) (by decide) rfl ?_
  intro p e s m args below meth c s₁ B hml hv
  obtain ⟨rfl, hsz, hP, hK, hE⟩ := hv
  subst hsz
  have hl := lv_entry ([.ref (a 0), .int x1, .int x2, .int x3, .int x4, .int x5]) (n := 7) (Nat.le_of_ble_eq_true rfl)
  rw [lg_entry_eq]
  generalize (lg_sl ([.ref (a 0), .int x1, .int x2, .int x3, .int x4, .int x5]) ++ List.replicate (7 - (lg_sl ([.ref (a 0), .int x1, .int x2, .int x3, .int x4, .int x5])).length) Slot.unset).toArray = ls at hl ⊢
  have hl : lv_has ls 7 [(0, .ref (a 0)), (1, .int x1), (2, .int x2), (3, .int x3), (4, .int x4), (5, .int x5)] := hl
  exact w_X12_shift_0 ⟨B.exec, B.bytes, hml, findClass_of_methodNamed B.named, fun w hw => atoms_spec (ws := Cond.code yX12_shift cX12_shift 7 (some .int) :: xTB) B.pre w (List.mem_cons_of_mem _ hw), hK, hI, hE⟩ B.returns B.notSynchronized hf (fun t0 e => e.symm) ⟨hP, va_S.rf⟩ (lv_sub hl [0, 1, 2, 3, 4, 5] rfl)
set_option maxHeartbeats 4000000 in
set_option maxRecDepth 100000 in
theorem w_X12_taken_73 (hM : xM p c cX12_taken m s args RX12 3 D cy xmb a z) (hr : meth.sig.returnType = (some .int)) (hlk : meth.locks = false) {S' : xSt} {v' : Int32} {S : xSt} {q : (xSt × Int32)} (h : f_X12_taken_73 S = some q) (k0 : ∀ t0 : xSt × Int32, q = t0 → t0 = (S', v')) {H : Heap} {locs : List Loc} (hG : xG D cy xmb a S s H locs) {ls : Array Slot} (hl : lv_has ls 3 []) : W p l e ({ frames := 2, cells := 0, slots := 0, locals := 42 } : Room) s m args below meth c H locs 0 0 (MQ below (xQi D cy xmb a S' v' s.heap.size) args s 0 0 (xA xmb a s.heap.size)) (F0 m 73 ls []) := by
  have hx := hM.1
  have hb := hM.2.1
  refine lv_bipush (v := (-12 : Int32)) hx hb dX12_taken_73 (by decide) ?_
  exact x_ri hM hG hr hlk rfl (k0 _ (Option.some.inj h).symm) dX12_taken_75
set_option maxHeartbeats 4000000 in
set_option maxRecDepth 100000 in
theorem w_X12_taken_0 {x1 : Int32} {x2 : Int32} (hM : xM p c cX12_taken m s args RX12 3 D cy xmb a z) (hr : meth.sig.returnType = (some .int)) (hlk : meth.locks = false) {S' : xSt} {v' : Int32} {S : xSt} {q : (xSt × Int32)} (h : f_X12_taken_0 x1 x2 S = some q) (k0 : ∀ t0 : xSt × Int32, q = t0 → t0 = (S', v')) {H : Heap} {locs : List Loc} (hG : xG D cy xmb a S s H locs) {ls : Array Slot} (hl : lv_has ls 3 [(0, .ref (a 0)), (1, .int x1), (2, .int x2)]) : W p l e ({ frames := 2, cells := 0, slots := 0, locals := 42 } : Room) s m args below meth c H locs 0 0 (MQ below (xQi D cy xmb a S' v' s.heap.size) args s 0 0 (xA xmb a s.heap.size)) (F0 m 0 ls []) := by
  have hx := hM.1
  have hb := hM.2.1
  refine lv_iload_n hx hb dX12_taken_0 rfl (lv_at hl 1 rfl) ?_
  refine x_cSi (As := [.int x1]) (rest := []) hM hG xml_X12_154 xwt_X12_isShelf h (fun S' v e => c_X12_isShelf hM.2.2.2.2.2.2.1 e _) ⟨Nat.le_of_ble_eq_true rfl, Nat.le_of_ble_eq_true rfl⟩ rfl hl.1 rfl (Nat.le_of_ble_eq_true rfl) dX12_taken_1 (fun S_1 v_2 H locs h hG => ?_)
  refine x_if_eq (tgt := 17) hM h dX12_taken_4 (by decide) (fun c_3 h => ?_) (fun c_3 h => ?_)
  · refine lv_iconst (v := (-1 : Int32)) hx hb dX12_taken_17 (by decide) ?_
    exact x_ri hM hG hr hlk rfl (k0 _ (Option.some.inj h).symm) dX12_taken_18
  · refine lv_iload_n hx hb dX12_taken_7 rfl (lv_at hl 2 rfl) ?_
    refine lv_iconst (v := (0 : Int32)) hx hb dX12_taken_8 (by decide) ?_
    refine lv_bipush (v := (7 : Int32)) hx hb dX12_taken_9 (by decide) ?_
    refine x_cSi (As := [.int x2, .int (0 : Int32), .int (7 : Int32)]) (rest := []) hM hG xml_X12_142 xwt_X12_in h (fun S' v e => c_X12_in hM.2.2.2.2.2.2.1 e _) ⟨Nat.le_of_ble_eq_true rfl, Nat.le_of_ble_eq_true rfl⟩ rfl hl.1 rfl (Nat.le_of_ble_eq_true rfl) dX12_taken_11 (fun S_4 v_5 H locs h hG => ?_)
    refine x_if_ne (tgt := 19) hM h dX12_taken_14 (by decide) (fun c_6 h => ?_) (fun c_6 h => ?_)
    · refine lv_aload_n hx hb dX12_taken_19 rfl (lv_at hl 0 rfl) ?_
      refine x_gr (r := 37) hM hG xfl_X12_126 xmt_0 (by decide) rfl dX12_taken_20 ?_
      refine lv_iload_n hx hb dX12_taken_23 rfl (lv_at hl 1 rfl) ?_
      refine x_iald hM hG xmt_37 h dX12_taken_24 (fun v_7 h => ?_)
      refine lv_iconst (v := (-1 : Int32)) hx hb dX12_taken_25 (by decide) ?_
      refine x_icmp_ne (tgt := 32) hM h dX12_taken_26 (by decide) (fun c_8 h => ?_) (fun c_8 h => ?_)
      · refine lv_aload_n hx hb dX12_taken_32 rfl (lv_at hl 0 rfl) ?_
        refine x_gr (r := 37) hM hG xfl_X12_126 xmt_0 (by decide) rfl dX12_taken_33 ?_
        refine lv_iload_n hx hb dX12_taken_36 rfl (lv_at hl 1 rfl) ?_
        refine x_iald hM hG xmt_37 h dX12_taken_37 (fun v_9 h => ?_)
        refine x_if_lt (tgt := 73) hM h dX12_taken_38 (by decide) (fun c_10 h => ?_) (fun c_10 h => ?_)
        · exact w_X12_taken_73 hM hr hlk h (fun t0 e => k0 t0 e) hG (lv_sub hl [] rfl)
        · refine lv_aload_n hx hb dX12_taken_41 rfl (lv_at hl 0 rfl) ?_
          refine x_gr (r := 35) hM hG xfl_X12_120 xmt_0 (by decide) rfl dX12_taken_42 ?_
          refine lv_aload_n hx hb dX12_taken_45 rfl (lv_at hl 0 rfl) ?_
          refine x_gr (r := 37) hM hG xfl_X12_126 xmt_0 (by decide) rfl dX12_taken_46 ?_
          refine lv_iload_n hx hb dX12_taken_49 rfl (lv_at hl 1 rfl) ?_
          refine x_iald hM hG xmt_37 h dX12_taken_50 (fun v_11 h => ?_)
          refine x_iald hM hG xmt_35 h dX12_taken_51 (fun v_12 h => ?_)
          refine lv_iload_n hx hb dX12_taken_52 rfl (lv_at hl 2 rfl) ?_
          refine x_cSi (As := [.int v_12, .int x2]) (rest := []) hM hG xml_X12_414 xwt_X12_isUnder h (fun S' v e => c_X12_isUnder hM.2.2.2.2.2.2.1 e _) ⟨Nat.le_of_ble_eq_true rfl, Nat.le_of_ble_eq_true rfl⟩ rfl hl.1 rfl (Nat.le_of_ble_eq_true rfl) dX12_taken_53 (fun S_13 v_14 H locs h hG => ?_)
          refine x_if_eq (tgt := 73) hM h dX12_taken_56 (by decide) (fun c_15 h => ?_) (fun c_15 h => ?_)
          · exact w_X12_taken_73 hM hr hlk h (fun t0 e => k0 t0 e) hG (lv_sub hl [] rfl)
          · refine lv_aload_n hx hb dX12_taken_59 rfl (lv_at hl 0 rfl) ?_
            refine x_gr (r := 35) hM hG xfl_X12_120 xmt_0 (by decide) rfl dX12_taken_60 ?_
            refine lv_aload_n hx hb dX12_taken_63 rfl (lv_at hl 0 rfl) ?_
            refine x_gr (r := 37) hM hG xfl_X12_126 xmt_0 (by decide) rfl dX12_taken_64 ?_
            refine lv_iload_n hx hb dX12_taken_67 rfl (lv_at hl 1 rfl) ?_
            refine x_iald hM hG xmt_37 h dX12_taken_68 (fun v_16 h => ?_)
            refine x_iald hM hG xmt_35 h dX12_taken_69 (fun v_17 h => ?_)
            refine lv_goto (tgt := 75) hx hb dX12_taken_70 (by decide) ?_
            exact x_ri hM hG hr hlk rfl (k0 _ (Option.some.inj h).symm) dX12_taken_75
      · refine lv_bipush (v := (-11 : Int32)) hx hb dX12_taken_29 (by decide) ?_
        exact x_ri hM hG hr hlk rfl (k0 _ (Option.some.inj h).symm) dX12_taken_31
    · refine lv_iconst (v := (-1 : Int32)) hx hb dX12_taken_17 (by decide) ?_
      exact x_ri hM hG hr hlk rfl (k0 _ (Option.some.inj h).symm) dX12_taken_18
set_option maxHeartbeats 4000000 in
set_option maxRecDepth 100000 in
theorem c_X12_taken {l : Launch} {D : va_G} {cy : Nat → ClassId} {a z : Nat → Nat} (hI : xI xmb a) {S : xSt} {x1 : Int32} {x2 : Int32} {S' : xSt} {v' : Int32} (hf : f_X12_taken S x1 x2 = some (S', v')) (sz : Nat) : Met l yX12_taken (Cond.code yX12_taken cX12_taken 3 (some .int) :: xTB) ({ frames := 2, cells := 0, slots := 0, locals := 42 } : Room) (va_Pc [.ref (a 0), .int x1, .int x2] (xPre D cy xmb a z S sz)) (xQi D cy xmb a S' v' sz) 0 0 (xA xmb a sz) := by
  refine Met.ofW (cc := cX12_taken) (maxL := 3) (ret := (some .int)) (by decide) rfl ?_
  intro p e s m args below meth c s₁ B hml hv
  obtain ⟨rfl, hsz, hP, hK, hE⟩ := hv
  subst hsz
  have hl := lv_entry ([.ref (a 0), .int x1, .int x2]) (n := 3) (Nat.le_of_ble_eq_true rfl)
  rw [lg_entry_eq]
  generalize (lg_sl ([.ref (a 0), .int x1, .int x2]) ++ List.replicate (3 - (lg_sl ([.ref (a 0), .int x1, .int x2])).length) Slot.unset).toArray = ls at hl ⊢
  have hl : lv_has ls 3 [(0, .ref (a 0)), (1, .int x1), (2, .int x2)] := hl
  exact w_X12_taken_0 ⟨B.exec, B.bytes, hml, findClass_of_methodNamed B.named, fun w hw => atoms_spec (ws := Cond.code yX12_taken cX12_taken 3 (some .int) :: xTB) B.pre w (List.mem_cons_of_mem _ hw), hK, hI, hE⟩ B.returns B.notSynchronized hf (fun t0 e => e.symm) ⟨hP, va_S.rf⟩ (lv_sub hl [0, 1, 2] rfl)
end XWwalkM4
