section XWwalkM3
variable {p : Program} {l : Launch} {e : Env} {s : State} {m : MethodId} {args : Array Value} {below : List Frame} {meth : Method} {c : Code} {D : va_G} {cy : Nat → ClassId} {a z : Nat → Nat}
set_option maxHeartbeats 4000000 in
set_option maxRecDepth 100000 in
theorem w_X12_goLay_57 {d : Nat} {g_X12_goLay : xSt → Int32 → Int32 → Int32 → Int32 → Option (xSt × Unit)} (hg_X12_goLay : ∀ (S : xSt) (x1 : Int32) (x2 : Int32) (x3 : Int32) (x4 : Int32) (S' : xSt) (v' : Unit), g_X12_goLay S x1 x2 x3 x4 = some (S', v') → ∀ sz : Nat, Met l yX12_goLay (Cond.code yX12_goLay cX12_goLay 7 none :: xTB) ({ frames := 8 + d, cells := 0, slots := 0, locals := 179 + d * 26 } : Room) (va_Pc [.ref (a 0), .int x1, .int x2, .int x3, .int x4] (xPre D cy xmb a z S sz)) (xQv D cy xmb a S' v' sz) 0 0 (xA xmb a sz)) {x1 : Int32} {x2 : Int32} {x3 : Int32} {x4 : Int32} {x5 : Int32} (hM : xM p c cX12_goLay m s args RX12 7 D cy xmb a z) (hr : meth.sig.returnType = none) (hlk : meth.locks = false) {S' : xSt} {v' : Unit} {S : xSt} {q : ((xSt × Int32) ⊕ (xSt × Unit))} (h : f_X12_goLay_57 g_X12_goLay x1 x2 x3 x4 x5 S = some q) (k0 : ∀ t0 : xSt × Unit, q = (.inr t0) → t0 = (S', v')) (k1 : ∀ (S : xSt) (x5 : Int32), q = (.inl (S, x5)) → ∀ (H : Heap) (locs : List Loc) (ls : Array Slot), xG D cy xmb a S s H locs → lv_has ls 7 [(0, .ref (a 0)), (1, .int x1), (2, .int x2), (3, .int x3), (4, .int x4), (5, .int x5)] → W p l e ({ frames := 8 + (d + 1), cells := 0, slots := 0, locals := 179 + (d + 1) * 26 } : Room) s m args below meth c H locs 0 0 (MQ below (xQv D cy xmb a S' v' s.heap.size) args s 0 0 (xA xmb a s.heap.size)) (F0 m 11 ls [])) {H : Heap} {locs : List Loc} (hG : xG D cy xmb a S s H locs) {ls : Array Slot} (hl : lv_has ls 7 [(0, .ref (a 0)), (1, .int x1), (2, .int x2), (3, .int x3), (4, .int x4), (5, .int x5)]) : W p l e ({ frames := 8 + (d + 1), cells := 0, slots := 0, locals := 179 + (d + 1) * 26 } : Room) s m args below meth c H locs 0 0 (MQ below (xQv D cy xmb a S' v' s.heap.size) args s 0 0 (xA xmb a s.heap.size)) (F0 m 57 ls []) := by
  have hx := hM.1
  have hb := hM.2.1
  refine x_iinc hM (fun v => [(5, .int v), (0, .ref (a 0)), (1, .int x1), (2, .int x2), (3, .int x3), (4, .int x4)]) h dX12_goLay_57 hl (k := 5) rfl (by decide) (by decide) (fun _ => rfl) (fun v_1 ls h hl => ?_)
  refine lv_goto (tgt := 11) hx hb dX12_goLay_60 (by decide) ?_
  exact k1 _ _ (Option.some.inj h).symm _ _ _ hG (lv_sub hl [1, 2, 3, 4, 5, 0] rfl)
set_option maxHeartbeats 4000000 in
set_option maxRecDepth 100000 in
theorem w_X12_goLay_11 {d : Nat} {g_X12_goLay : xSt → Int32 → Int32 → Int32 → Int32 → Option (xSt × Unit)} (hg_X12_goLay : ∀ (S : xSt) (x1 : Int32) (x2 : Int32) (x3 : Int32) (x4 : Int32) (S' : xSt) (v' : Unit), g_X12_goLay S x1 x2 x3 x4 = some (S', v') → ∀ sz : Nat, Met l yX12_goLay (Cond.code yX12_goLay cX12_goLay 7 none :: xTB) ({ frames := 8 + d, cells := 0, slots := 0, locals := 179 + d * 26 } : Room) (va_Pc [.ref (a 0), .int x1, .int x2, .int x3, .int x4] (xPre D cy xmb a z S sz)) (xQv D cy xmb a S' v' sz) 0 0 (xA xmb a sz)) {x1 : Int32} {x2 : Int32} {x3 : Int32} {x4 : Int32} {x5 : Int32} (hM : xM p c cX12_goLay m s args RX12 7 D cy xmb a z) (hr : meth.sig.returnType = none) (hlk : meth.locks = false) {S' : xSt} {v' : Unit} {S : xSt} {q : ((xSt × Int32) ⊕ (xSt × Unit))} (h : f_X12_goLay_11 g_X12_goLay x1 x2 x3 x4 S x5 = some q) (k0 : ∀ t0 : xSt × Unit, q = (.inr t0) → t0 = (S', v')) (k1 : ∀ (S : xSt) (x5 : Int32), q = (.inl (S, x5)) → ∀ (H : Heap) (locs : List Loc) (ls : Array Slot), xG D cy xmb a S s H locs → lv_has ls 7 [(0, .ref (a 0)), (1, .int x1), (2, .int x2), (3, .int x3), (4, .int x4), (5, .int x5)] → W p l e ({ frames := 8 + (d + 1), cells := 0, slots := 0, locals := 179 + (d + 1) * 26 } : Room) s m args below meth c H locs 0 0 (MQ below (xQv D cy xmb a S' v' s.heap.size) args s 0 0 (xA xmb a s.heap.size)) (F0 m 11 ls [])) {H : Heap} {locs : List Loc} (hG : xG D cy xmb a S s H locs) {ls : Array Slot} (hl : lv_has ls 7 [(0, .ref (a 0)), (1, .int x1), (2, .int x2), (3, .int x3), (4, .int x4), (5, .int x5)]) : W p l e ({ frames := 8 + (d + 1), cells := 0, slots := 0, locals := 179 + (d + 1) * 26 } : Room) s m args below meth c H locs 0 0 (MQ below (xQv D cy xmb a S' v' s.heap.size) args s 0 0 (xA xmb a s.heap.size)) (F0 m 11 ls []) := by
  have hx := hM.1
  have hb := hM.2.1
  refine lv_iload hx hb dX12_goLay_11 (lv_at hl 5 rfl) ?_
  refine lv_aload_n hx hb dX12_goLay_13 rfl (lv_at hl 0 rfl) ?_
  refine x_gi hM hG xfl_X12_343 xmt_0 (by decide) rfl h dX12_goLay_14 (fun v_1 h => ?_)
  refine x_icmp_ge (tgt := 63) hM h dX12_goLay_17 (by decide) (fun c_2 h => ?_) (fun c_2 h => ?_)
  · exact x_rv hM hG hr hlk (k0 _ (Option.some.inj h).symm) dX12_goLay_63
  · refine lv_iload hx hb dX12_goLay_20 (lv_at hl 4 rfl) ?_
    refine lv_iload hx hb dX12_goLay_22 (lv_at hl 5 rfl) ?_
    refine x_cSi (As := [.int x4, .int x5]) (rest := []) hM hG xml_X12_328 xwt_X12_has h (fun S' v e => c_X12_has hM.2.2.2.2.2.2.1 e _) ⟨by show _ ≤ 8 + (d + 1); omega, by show _ ≤ 179 + (d + 1) * 26; omega⟩ rfl hl.1 rfl (Nat.le_of_ble_eq_true rfl) dX12_goLay_24 (fun S_3 v_4 H locs h hG => ?_)
    refine x_if_eq (tgt := 33) hM h dX12_goLay_27 (by decide) (fun c_5 h => ?_) (fun c_5 h => ?_)
    · refine lv_aload_n hx hb dX12_goLay_33 rfl (lv_at hl 0 rfl) ?_
      refine x_gr (r := 29) hM hG xfl_X12_98 xmt_0 (by decide) rfl dX12_goLay_34 ?_
      refine lv_iload_n hx hb dX12_goLay_37 rfl (lv_at hl 3 rfl) ?_
      refine lv_iload hx hb dX12_goLay_38 (lv_at hl 5 rfl) ?_
      refine x_iast hM hG xmt_29 h dX12_goLay_40 (fun S_6 H locs h hG => ?_)
      refine lv_aload_n hx hb dX12_goLay_41 rfl (lv_at hl 0 rfl) ?_
      refine lv_iload_n hx hb dX12_goLay_42 rfl (lv_at hl 1 rfl) ?_
      refine lv_iload_n hx hb dX12_goLay_43 rfl (lv_at hl 2 rfl) ?_
      refine lv_iload_n hx hb dX12_goLay_44 rfl (lv_at hl 3 rfl) ?_
      refine lv_iconst (v := (1 : Int32)) hx hb dX12_goLay_45 (by decide) ?_
      refine x_iadd hM h dX12_goLay_46 (fun v_7 h => ?_)
      refine lv_iload hx hb dX12_goLay_47 (lv_at hl 4 rfl) ?_
      refine lv_iconst (v := (1 : Int32)) hx hb dX12_goLay_49 (by decide) ?_
      refine lv_iload hx hb dX12_goLay_50 (lv_at hl 5 rfl) ?_
      refine x_ishl hM h dX12_goLay_52 (fun v_8 h => ?_)
      refine x_ior hM h dX12_goLay_53 (fun v_9 h => ?_)
      refine x_cVv (As := [.int x1, .int x2, .int v_7, .int v_9]) (rest := []) hM hG xml_X12_346 xwi_X12_goLay xws_X12_goLay xmt_0 (by decide) rfl h (fun S' v e => hg_X12_goLay _ _ _ _ _ _ _ e _) ⟨by show _ ≤ 8 + (d + 1); omega, by show _ ≤ 179 + (d + 1) * 26; omega⟩ rfl hl.1 rfl (Nat.le_of_ble_eq_true rfl) dX12_goLay_54 (fun S_10 v_11 H locs h hG => ?_)
      exact w_X12_goLay_57 hg_X12_goLay hM hr hlk h (fun t0 e => k0 t0 e) (fun S x5 e => k1 S x5 e) hG (lv_sub hl [0, 1, 2, 3, 4, 5] rfl)
    · refine lv_goto (tgt := 57) hx hb dX12_goLay_30 (by decide) ?_
      exact w_X12_goLay_57 hg_X12_goLay hM hr hlk h (fun t0 e => k0 t0 e) (fun S x5 e => k1 S x5 e) hG (lv_sub hl [0, 1, 2, 3, 4, 5] rfl)
theorem wl_X12_goLay_11 {d : Nat} {g_X12_goLay : xSt → Int32 → Int32 → Int32 → Int32 → Option (xSt × Unit)} (hg_X12_goLay : ∀ (S : xSt) (x1 : Int32) (x2 : Int32) (x3 : Int32) (x4 : Int32) (S' : xSt) (v' : Unit), g_X12_goLay S x1 x2 x3 x4 = some (S', v') → ∀ sz : Nat, Met l yX12_goLay (Cond.code yX12_goLay cX12_goLay 7 none :: xTB) ({ frames := 8 + d, cells := 0, slots := 0, locals := 179 + d * 26 } : Room) (va_Pc [.ref (a 0), .int x1, .int x2, .int x3, .int x4] (xPre D cy xmb a z S sz)) (xQv D cy xmb a S' v' sz) 0 0 (xA xmb a sz)) {x1 : Int32} {x2 : Int32} {x3 : Int32} {x4 : Int32} (hM : xM p c cX12_goLay m s args RX12 7 D cy xmb a z) (hr : meth.sig.returnType = none) (hlk : meth.locks = false) {S' : xSt} {v' : Unit} {q : (xSt × Unit)} (k0 : ∀ t0 : xSt × Unit, q = t0 → t0 = (S', v')) (n : Nat) : ∀ (S : xSt) (x5 : Int32) (H : Heap) (locs : List Loc) (ls : Array Slot), xlp (fun q : (xSt × Int32) => f_X12_goLay_11 g_X12_goLay x1 x2 x3 x4 q.1 q.2) n (S, x5) = some q → xG D cy xmb a S s H locs → lv_has ls 7 [(0, .ref (a 0)), (1, .int x1), (2, .int x2), (3, .int x3), (4, .int x4), (5, .int x5)] → W p l e ({ frames := 8 + (d + 1), cells := 0, slots := 0, locals := 179 + (d + 1) * 26 } : Room) s m args below meth c H locs 0 0 (MQ below (xQv D cy xmb a S' v' s.heap.size) args s 0 0 (xA xmb a s.heap.size)) (F0 m 11 ls []) := by
  induction n with
  | zero => intro S x5 H locs ls h; exact (xlp_0 h).elim
  | succ n ih =>
    intro S x5 H locs ls h hG hl
    obtain ⟨q1, hq, hc, he⟩ := xlp_at h
    exact w_X12_goLay_11 hg_X12_goLay hM hr hlk (q := q1) hq (fun t0 e => k0 t0 (he _ e).symm) (fun S x5 e H locs ls hG hl => ih S x5 H locs ls (hc _ e) hG hl) hG hl
set_option maxHeartbeats 4000000 in
set_option maxRecDepth 100000 in
theorem w_X12_goLay_198 {d : Nat} {g_X12_goLay : xSt → Int32 → Int32 → Int32 → Int32 → Option (xSt × Unit)} (hg_X12_goLay : ∀ (S : xSt) (x1 : Int32) (x2 : Int32) (x3 : Int32) (x4 : Int32) (S' : xSt) (v' : Unit), g_X12_goLay S x1 x2 x3 x4 = some (S', v') → ∀ sz : Nat, Met l yX12_goLay (Cond.code yX12_goLay cX12_goLay 7 none :: xTB) ({ frames := 8 + d, cells := 0, slots := 0, locals := 179 + d * 26 } : Room) (va_Pc [.ref (a 0), .int x1, .int x2, .int x3, .int x4] (xPre D cy xmb a z S sz)) (xQv D cy xmb a S' v' sz) 0 0 (xA xmb a sz)) {x6 : Int32} (hM : xM p c cX12_goLay m s args RX12 7 D cy xmb a z) (hr : meth.sig.returnType = none) (hlk : meth.locks = false) {S' : xSt} {v' : Unit} {S : xSt} {q : ((xSt × Int32) ⊕ (xSt × Unit))} (h : f_X12_goLay_198 g_X12_goLay S x6 = some q) (k0 : ∀ t0 : xSt × Unit, q = (.inr t0) → t0 = (S', v')) (k1 : ∀ (S : xSt) (x6 : Int32), q = (.inl (S, x6)) → ∀ (H : Heap) (locs : List Loc) (ls : Array Slot), xG D cy xmb a S s H locs → lv_has ls 7 [(0, .ref (a 0)), (6, .int x6)] → W p l e ({ frames := 8 + (d + 1), cells := 0, slots := 0, locals := 179 + (d + 1) * 26 } : Room) s m args below meth c H locs 0 0 (MQ below (xQv D cy xmb a S' v' s.heap.size) args s 0 0 (xA xmb a s.heap.size)) (F0 m 198 ls [])) {H : Heap} {locs : List Loc} (hG : xG D cy xmb a S s H locs) {ls : Array Slot} (hl : lv_has ls 7 [(0, .ref (a 0)), (6, .int x6)]) : W p l e ({ frames := 8 + (d + 1), cells := 0, slots := 0, locals := 179 + (d + 1) * 26 } : Room) s m args below meth c H locs 0 0 (MQ below (xQv D cy xmb a S' v' s.heap.size) args s 0 0 (xA xmb a s.heap.size)) (F0 m 198 ls []) := by
  have hx := hM.1
  have hb := hM.2.1
  refine lv_iload hx hb dX12_goLay_198 (lv_at hl 1 rfl) ?_
  refine lv_aload_n hx hb dX12_goLay_200 rfl (lv_at hl 0 rfl) ?_
  refine x_gi hM hG xfl_X12_343 xmt_0 (by decide) rfl h dX12_goLay_201 (fun v_1 h => ?_)
  refine x_icmp_ge (tgt := 227) hM h dX12_goLay_204 (by decide) (fun c_2 h => ?_) (fun c_2 h => ?_)
  · exact x_rv hM hG hr hlk (k0 _ (Option.some.inj h).symm) dX12_goLay_227
  · refine lv_aload_n hx hb dX12_goLay_207 rfl (lv_at hl 0 rfl) ?_
    refine x_gr (r := 30) hM hG xfl_X12_101 xmt_0 (by decide) rfl dX12_goLay_208 ?_
    refine lv_iload hx hb dX12_goLay_211 (lv_at hl 1 rfl) ?_
    refine lv_aload_n hx hb dX12_goLay_213 rfl (lv_at hl 0 rfl) ?_
    refine x_gr (r := 29) hM hG xfl_X12_98 xmt_0 (by decide) rfl dX12_goLay_214 ?_
    refine lv_iload hx hb dX12_goLay_217 (lv_at hl 1 rfl) ?_
    refine x_iald hM hG xmt_29 h dX12_goLay_219 (fun v_3 h => ?_)
    refine x_iast hM hG xmt_30 h dX12_goLay_220 (fun S_4 H locs h hG => ?_)
    refine x_iinc hM (fun v => [(6, .int v), (0, .ref (a 0))]) h dX12_goLay_221 hl (k := 1) rfl (by decide) (by decide) (fun _ => rfl) (fun v_5 ls h hl => ?_)
    refine lv_goto (tgt := 198) hx hb dX12_goLay_224 (by decide) ?_
    exact k1 _ _ (Option.some.inj h).symm _ _ _ hG (lv_sub hl [1, 0] rfl)
theorem wl_X12_goLay_198 {d : Nat} {g_X12_goLay : xSt → Int32 → Int32 → Int32 → Int32 → Option (xSt × Unit)} (hg_X12_goLay : ∀ (S : xSt) (x1 : Int32) (x2 : Int32) (x3 : Int32) (x4 : Int32) (S' : xSt) (v' : Unit), g_X12_goLay S x1 x2 x3 x4 = some (S', v') → ∀ sz : Nat, Met l yX12_goLay (Cond.code yX12_goLay cX12_goLay 7 none :: xTB) ({ frames := 8 + d, cells := 0, slots := 0, locals := 179 + d * 26 } : Room) (va_Pc [.ref (a 0), .int x1, .int x2, .int x3, .int x4] (xPre D cy xmb a z S sz)) (xQv D cy xmb a S' v' sz) 0 0 (xA xmb a sz)) (hM : xM p c cX12_goLay m s args RX12 7 D cy xmb a z) (hr : meth.sig.returnType = none) (hlk : meth.locks = false) {S' : xSt} {v' : Unit} {q : (xSt × Unit)} (k0 : ∀ t0 : xSt × Unit, q = t0 → t0 = (S', v')) (n : Nat) : ∀ (S : xSt) (x6 : Int32) (H : Heap) (locs : List Loc) (ls : Array Slot), xlp (fun q : (xSt × Int32) => f_X12_goLay_198 g_X12_goLay q.1 q.2) n (S, x6) = some q → xG D cy xmb a S s H locs → lv_has ls 7 [(0, .ref (a 0)), (6, .int x6)] → W p l e ({ frames := 8 + (d + 1), cells := 0, slots := 0, locals := 179 + (d + 1) * 26 } : Room) s m args below meth c H locs 0 0 (MQ below (xQv D cy xmb a S' v' s.heap.size) args s 0 0 (xA xmb a s.heap.size)) (F0 m 198 ls []) := by
  induction n with
  | zero => intro S x6 H locs ls h; exact (xlp_0 h).elim
  | succ n ih =>
    intro S x6 H locs ls h hG hl
    obtain ⟨q1, hq, hc, he⟩ := xlp_at h
    exact w_X12_goLay_198 hg_X12_goLay hM hr hlk (q := q1) hq (fun t0 e => k0 t0 (he _ e).symm) (fun S x6 e H locs ls hG hl => ih S x6 H locs ls (hc _ e) hG hl) hG hl
set_option maxHeartbeats 4000000 in
set_option maxRecDepth 100000 in
theorem w_X12_goLay_189 {d : Nat} {g_X12_goLay : xSt → Int32 → Int32 → Int32 → Int32 → Option (xSt × Unit)} (hg_X12_goLay : ∀ (S : xSt) (x1 : Int32) (x2 : Int32) (x3 : Int32) (x4 : Int32) (S' : xSt) (v' : Unit), g_X12_goLay S x1 x2 x3 x4 = some (S', v') → ∀ sz : Nat, Met l yX12_goLay (Cond.code yX12_goLay cX12_goLay 7 none :: xTB) ({ frames := 8 + d, cells := 0, slots := 0, locals := 179 + d * 26 } : Room) (va_Pc [.ref (a 0), .int x1, .int x2, .int x3, .int x4] (xPre D cy xmb a z S sz)) (xQv D cy xmb a S' v' sz) 0 0 (xA xmb a sz)) {x5 : Int32} (hM : xM p c cX12_goLay m s args RX12 7 D cy xmb a z) (hr : meth.sig.returnType = none) (hlk : meth.locks = false) {S' : xSt} {v' : Unit} {S : xSt} {q : (xSt × Unit)} (h : f_X12_goLay_189 g_X12_goLay x5 S = some q) (k0 : ∀ t0 : xSt × Unit, q = t0 → t0 = (S', v')) {H : Heap} {locs : List Loc} (hG : xG D cy xmb a S s H locs) {ls : Array Slot} (hl : lv_has ls 7 [(0, .ref (a 0)), (5, .int x5)]) : W p l e ({ frames := 8 + (d + 1), cells := 0, slots := 0, locals := 179 + (d + 1) * 26 } : Room) s m args below meth c H locs 0 0 (MQ below (xQv D cy xmb a S' v' s.heap.size) args s 0 0 (xA xmb a s.heap.size)) (F0 m 189 ls []) := by
  have hx := hM.1
  have hb := hM.2.1
  refine lv_aload_n hx hb dX12_goLay_189 rfl (lv_at hl 0 rfl) ?_
  refine lv_iload hx hb dX12_goLay_190 (lv_at hl 1 rfl) ?_
  refine x_pi hM hG xfl_X12_353 xfp_X12_42 xmt_0 (by decide) rfl rfl rfl h dX12_goLay_192 (fun S_1 H locs h hG => ?_)
  refine lv_iconst (v := (0 : Int32)) hx hb dX12_goLay_195 (by decide) ?_
  refine lv_istore (lv' := [(6, .int (0 : Int32)), (0, .ref (a 0)), (5, .int x5)]) hx hb dX12_goLay_196 hl (by decide) rfl (fun ls hl => ?_)
  exact wl_X12_goLay_198 hg_X12_goLay hM hr hlk (fun t0 e => k0 t0 e) 5000 _ _ _ _ _ h hG (lv_sub hl [1, 0] rfl)
set_option maxHeartbeats 4000000 in
set_option maxRecDepth 100000 in
theorem w_X12_goLay_156 {d : Nat} {g_X12_goLay : xSt → Int32 → Int32 → Int32 → Int32 → Option (xSt × Unit)} (hg_X12_goLay : ∀ (S : xSt) (x1 : Int32) (x2 : Int32) (x3 : Int32) (x4 : Int32) (S' : xSt) (v' : Unit), g_X12_goLay S x1 x2 x3 x4 = some (S', v') → ∀ sz : Nat, Met l yX12_goLay (Cond.code yX12_goLay cX12_goLay 7 none :: xTB) ({ frames := 8 + d, cells := 0, slots := 0, locals := 179 + d * 26 } : Room) (va_Pc [.ref (a 0), .int x1, .int x2, .int x3, .int x4] (xPre D cy xmb a z S sz)) (xQv D cy xmb a S' v' sz) 0 0 (xA xmb a sz)) {x2 : Int32} (hM : xM p c cX12_goLay m s args RX12 7 D cy xmb a z) (hr : meth.sig.returnType = none) (hlk : meth.locks = false) {S' : xSt} {v' : Unit} {S : xSt} {q : (xSt × Unit)} (h : f_X12_goLay_156 g_X12_goLay x2 S = some q) (k0 : ∀ t0 : xSt × Unit, q = t0 → t0 = (S', v')) {H : Heap} {locs : List Loc} (hG : xG D cy xmb a S s H locs) {ls : Array Slot} (hl : lv_has ls 7 [(0, .ref (a 0)), (2, .int x2)]) : W p l e ({ frames := 8 + (d + 1), cells := 0, slots := 0, locals := 179 + (d + 1) * 26 } : Room) s m args below meth c H locs 0 0 (MQ below (xQv D cy xmb a S' v' s.heap.size) args s 0 0 (xA xmb a s.heap.size)) (F0 m 156 ls []) := by
  have hx := hM.1
  have hb := hM.2.1
  refine lv_aload_n hx hb dX12_goLay_156 rfl (lv_at hl 0 rfl) ?_
  refine lv_iload_n hx hb dX12_goLay_157 rfl (lv_at hl 1 rfl) ?_
  refine x_cVv (As := [.int x2]) (rest := []) hM hG xml_X12_291 xwi_X12_goDays xws_X12_goDays xmt_0 (by decide) rfl h (fun S' v e => c_X12_goDays hM.2.2.2.2.2.2.1 e _) ⟨by show _ ≤ 8 + (d + 1); omega, by show _ ≤ 179 + (d + 1) * 26; omega⟩ rfl hl.1 rfl (Nat.le_of_ble_eq_true rfl) dX12_goLay_158 (fun S_1 v_2 H locs h hG => ?_)
  refine lv_aload_n hx hb dX12_goLay_161 rfl (lv_at hl 0 rfl) ?_
  refine x_cVi (As := []) (rest := []) hM hG xml_X12_295 xwi_X12_hottestHeat xws_X12_hottestHeat xmt_0 (by decide) rfl h (fun S' v e => c_X12_hottestHeat hM.2.2.2.2.2.2.1 e _) ⟨by show _ ≤ 8 + (d + 1); omega, by show _ ≤ 179 + (d + 1) * 26; omega⟩ rfl hl.1 rfl (Nat.le_of_ble_eq_true rfl) dX12_goLay_162 (fun S_3 v_4 H locs h hG => ?_)
  refine lv_istore (lv' := [(5, .int v_4), (0, .ref (a 0)), (2, .int x2)]) hx hb dX12_goLay_165 hl (by decide) rfl (fun ls hl => ?_)
  refine lv_iload hx hb dX12_goLay_167 (lv_at hl 0 rfl) ?_
  refine x_if_lt (tgt := 188) hM h dX12_goLay_169 (by decide) (fun c_5 h => ?_) (fun c_5 h => ?_)
  · exact x_rv hM hG hr hlk (k0 _ (Option.some.inj h).symm) dX12_goLay_188
  · refine lv_aload_n hx hb dX12_goLay_172 rfl (lv_at hl 1 rfl) ?_
    refine x_gi hM hG xfl_X12_353 xmt_0 (by decide) rfl h dX12_goLay_173 (fun v_6 h => ?_)
    refine x_if_lt (tgt := 189) hM h dX12_goLay_176 (by decide) (fun c_7 h => ?_) (fun c_7 h => ?_)
    · exact w_X12_goLay_189 hg_X12_goLay hM hr hlk h (fun t0 e => k0 t0 e) hG (lv_sub hl [1, 0] rfl)
    · refine lv_iload hx hb dX12_goLay_179 (lv_at hl 0 rfl) ?_
      refine lv_aload_n hx hb dX12_goLay_181 rfl (lv_at hl 1 rfl) ?_
      refine x_gi hM hG xfl_X12_353 xmt_0 (by decide) rfl h dX12_goLay_182 (fun v_8 h => ?_)
      refine x_icmp_lt (tgt := 189) hM h dX12_goLay_185 (by decide) (fun c_9 h => ?_) (fun c_9 h => ?_)
      · exact w_X12_goLay_189 hg_X12_goLay hM hr hlk h (fun t0 e => k0 t0 e) hG (lv_sub hl [1, 0] rfl)
      · exact x_rv hM hG hr hlk (k0 _ (Option.some.inj h).symm) dX12_goLay_188
set_option maxHeartbeats 4000000 in
set_option maxRecDepth 100000 in
theorem w_X12_goLay_71 {d : Nat} {g_X12_goLay : xSt → Int32 → Int32 → Int32 → Int32 → Option (xSt × Unit)} (hg_X12_goLay : ∀ (S : xSt) (x1 : Int32) (x2 : Int32) (x3 : Int32) (x4 : Int32) (S' : xSt) (v' : Unit), g_X12_goLay S x1 x2 x3 x4 = some (S', v') → ∀ sz : Nat, Met l yX12_goLay (Cond.code yX12_goLay cX12_goLay 7 none :: xTB) ({ frames := 8 + d, cells := 0, slots := 0, locals := 179 + d * 26 } : Room) (va_Pc [.ref (a 0), .int x1, .int x2, .int x3, .int x4] (xPre D cy xmb a z S sz)) (xQv D cy xmb a S' v' sz) 0 0 (xA xmb a sz)) {x1 : Int32} {x2 : Int32} {x5 : Int32} (hM : xM p c cX12_goLay m s args RX12 7 D cy xmb a z) (hr : meth.sig.returnType = none) (hlk : meth.locks = false) {S' : xSt} {v' : Unit} {S : xSt} {q : ((xSt × Int32) ⊕ (xSt × Unit))} (h : f_X12_goLay_71 g_X12_goLay x1 x2 S x5 = some q) (k0 : ∀ t0 : xSt × Unit, q = (.inr t0) → t0 = (S', v')) (k1 : ∀ (S : xSt) (x5 : Int32), q = (.inl (S, x5)) → ∀ (H : Heap) (locs : List Loc) (ls : Array Slot), xG D cy xmb a S s H locs → lv_has ls 7 [(0, .ref (a 0)), (1, .int x1), (2, .int x2), (5, .int x5)] → W p l e ({ frames := 8 + (d + 1), cells := 0, slots := 0, locals := 179 + (d + 1) * 26 } : Room) s m args below meth c H locs 0 0 (MQ below (xQv D cy xmb a S' v' s.heap.size) args s 0 0 (xA xmb a s.heap.size)) (F0 m 71 ls [])) {H : Heap} {locs : List Loc} (hG : xG D cy xmb a S s H locs) {ls : Array Slot} (hl : lv_has ls 7 [(0, .ref (a 0)), (1, .int x1), (2, .int x2), (5, .int x5)]) : W p l e ({ frames := 8 + (d + 1), cells := 0, slots := 0, locals := 179 + (d + 1) * 26 } : Room) s m args below meth c H locs 0 0 (MQ below (xQv D cy xmb a S' v' s.heap.size) args s 0 0 (xA xmb a s.heap.size)) (F0 m 71 ls []) := by
  have hx := hM.1
  have hb := hM.2.1
  refine lv_iload hx hb dX12_goLay_71 (lv_at hl 3 rfl) ?_
  refine lv_aload_n hx hb dX12_goLay_73 rfl (lv_at hl 0 rfl) ?_
  refine x_gi hM hG xfl_X12_343 xmt_0 (by decide) rfl h dX12_goLay_74 (fun v_1 h => ?_)
  refine x_icmp_ge (tgt := 156) hM h dX12_goLay_77 (by decide) (fun c_2 h => ?_) (fun c_2 h => ?_)
  · obtain ⟨q1, h, e1⟩ := xmr_at h
    exact w_X12_goLay_156 hg_X12_goLay hM hr hlk h (fun t0 e => k0 t0 (by rw [e1, e])) hG (lv_sub hl [0, 2] rfl)
  · refine lv_iconst (v := (5 : Int32)) hx hb dX12_goLay_80 (by decide) ?_
    refine lv_iload hx hb dX12_goLay_81 (lv_at hl 3 rfl) ?_
    refine x_imul hM h dX12_goLay_83 (fun v_3 h => ?_)
    refine lv_aload_n hx hb dX12_goLay_84 rfl (lv_at hl 0 rfl) ?_
    refine x_gr (r := 22) hM hG xfl_X12_77 xmt_0 (by decide) rfl dX12_goLay_85 ?_
    refine lv_iload hx hb dX12_goLay_88 (lv_at hl 3 rfl) ?_
    refine x_iald hM hG xmt_22 h dX12_goLay_90 (fun v_4 h => ?_)
    refine x_iadd hM h dX12_goLay_91 (fun v_5 h => ?_)
    refine lv_istore (lv' := [(6, .int v_5), (0, .ref (a 0)), (1, .int x1), (2, .int x2), (5, .int x5)]) hx hb dX12_goLay_92 hl (by decide) rfl (fun ls hl => ?_)
    refine lv_aload_n hx hb dX12_goLay_94 rfl (lv_at hl 1 rfl) ?_
    refine x_gr (r := 23) hM hG xfl_X12_80 xmt_0 (by decide) rfl dX12_goLay_95 ?_
    refine lv_iload hx hb dX12_goLay_98 (lv_at hl 0 rfl) ?_
    refine lv_aload_n hx hb dX12_goLay_100 rfl (lv_at hl 1 rfl) ?_
    refine lv_iload_n hx hb dX12_goLay_101 rfl (lv_at hl 2 rfl) ?_
    refine lv_aload_n hx hb dX12_goLay_102 rfl (lv_at hl 1 rfl) ?_
    refine x_gr (r := 29) hM hG xfl_X12_98 xmt_0 (by decide) rfl dX12_goLay_103 ?_
    refine lv_iload hx hb dX12_goLay_106 (lv_at hl 4 rfl) ?_
    refine x_iald hM hG xmt_29 h dX12_goLay_108 (fun v_6 h => ?_)
    refine x_cVi (As := [.int x1, .int v_6]) (rest := [.int v_5, .ref (a 23)]) hM hG xml_X12_350 xwi_X12_at xws_X12_at xmt_0 (by decide) rfl h (fun S' v e => c_X12_at hM.2.2.2.2.2.2.1 e _) ⟨by show _ ≤ 8 + (d + 1); omega, by show _ ≤ 179 + (d + 1) * 26; omega⟩ rfl hl.1 rfl (Nat.le_of_ble_eq_true rfl) dX12_goLay_109 (fun S_7 v_8 H locs h hG => ?_)
    refine x_iast hM hG xmt_23 h dX12_goLay_112 (fun S_9 H locs h hG => ?_)
    refine lv_aload_n hx hb dX12_goLay_113 rfl (lv_at hl 1 rfl) ?_
    refine x_gr (r := 24) hM hG xfl_X12_83 xmt_0 (by decide) rfl dX12_goLay_114 ?_
    refine lv_iload hx hb dX12_goLay_117 (lv_at hl 0 rfl) ?_
    refine lv_bipush (v := (20 : Int32)) hx hb dX12_goLay_119 (by decide) ?_
    refine x_iast hM hG xmt_24 h dX12_goLay_121 (fun S_10 H locs h hG => ?_)
    refine lv_aload_n hx hb dX12_goLay_122 rfl (lv_at hl 1 rfl) ?_
    refine x_gr (r := 25) hM hG xfl_X12_86 xmt_0 (by decide) rfl dX12_goLay_123 ?_
    refine lv_iload hx hb dX12_goLay_126 (lv_at hl 0 rfl) ?_
    refine lv_bipush (v := (99 : Int32)) hx hb dX12_goLay_128 (by decide) ?_
    refine x_iast hM hG xmt_25 h dX12_goLay_130 (fun S_11 H locs h hG => ?_)
    refine lv_aload_n hx hb dX12_goLay_131 rfl (lv_at hl 1 rfl) ?_
    refine x_gr (r := 26) hM hG xfl_X12_89 xmt_0 (by decide) rfl dX12_goLay_132 ?_
    refine lv_iload hx hb dX12_goLay_135 (lv_at hl 0 rfl) ?_
    refine lv_iconst (v := (0 : Int32)) hx hb dX12_goLay_137 (by decide) ?_
    refine x_iast hM hG xmt_26 h dX12_goLay_138 (fun S_12 H locs h hG => ?_)
    refine lv_aload_n hx hb dX12_goLay_139 rfl (lv_at hl 1 rfl) ?_
    refine x_gr (r := 22) hM hG xfl_X12_77 xmt_0 (by decide) rfl dX12_goLay_140 ?_
    refine lv_iload hx hb dX12_goLay_143 (lv_at hl 4 rfl) ?_
    refine lv_dup2_11 hx hb dX12_goLay_145 rfl rfl ?_
    refine x_iald hM hG xmt_22 h dX12_goLay_146 (fun v_13 h => ?_)
    refine lv_iconst (v := (1 : Int32)) hx hb dX12_goLay_147 (by decide) ?_
    refine x_iadd hM h dX12_goLay_148 (fun v_14 h => ?_)
    refine x_iast hM hG xmt_22 h dX12_goLay_149 (fun S_15 H locs h hG => ?_)
    refine x_iinc hM (fun v => [(5, .int v), (6, .int v_5), (0, .ref (a 0)), (1, .int x1), (2, .int x2)]) h dX12_goLay_150 hl (k := 4) rfl (by decide) (by decide) (fun _ => rfl) (fun v_16 ls h hl => ?_)
    refine lv_goto (tgt := 71) hx hb dX12_goLay_153 (by decide) ?_
    exact k1 _ _ (Option.some.inj h).symm _ _ _ hG (lv_sub hl [2, 3, 4, 0] rfl)
theorem wl_X12_goLay_71 {d : Nat} {g_X12_goLay : xSt → Int32 → Int32 → Int32 → Int32 → Option (xSt × Unit)} (hg_X12_goLay : ∀ (S : xSt) (x1 : Int32) (x2 : Int32) (x3 : Int32) (x4 : Int32) (S' : xSt) (v' : Unit), g_X12_goLay S x1 x2 x3 x4 = some (S', v') → ∀ sz : Nat, Met l yX12_goLay (Cond.code yX12_goLay cX12_goLay 7 none :: xTB) ({ frames := 8 + d, cells := 0, slots := 0, locals := 179 + d * 26 } : Room) (va_Pc [.ref (a 0), .int x1, .int x2, .int x3, .int x4] (xPre D cy xmb a z S sz)) (xQv D cy xmb a S' v' sz) 0 0 (xA xmb a sz)) {x1 : Int32} {x2 : Int32} (hM : xM p c cX12_goLay m s args RX12 7 D cy xmb a z) (hr : meth.sig.returnType = none) (hlk : meth.locks = false) {S' : xSt} {v' : Unit} {q : (xSt × Unit)} (k0 : ∀ t0 : xSt × Unit, q = t0 → t0 = (S', v')) (n : Nat) : ∀ (S : xSt) (x5 : Int32) (H : Heap) (locs : List Loc) (ls : Array Slot), xlp (fun q : (xSt × Int32) => f_X12_goLay_71 g_X12_goLay x1 x2 q.1 q.2) n (S, x5) = some q → xG D cy xmb a S s H locs → lv_has ls 7 [(0, .ref (a 0)), (1, .int x1), (2, .int x2), (5, .int x5)] → W p l e ({ frames := 8 + (d + 1), cells := 0, slots := 0, locals := 179 + (d + 1) * 26 } : Room) s m args below meth c H locs 0 0 (MQ below (xQv D cy xmb a S' v' s.heap.size) args s 0 0 (xA xmb a s.heap.size)) (F0 m 71 ls []) := by
  induction n with
  | zero => intro S x5 H locs ls h; exact (xlp_0 h).elim
  | succ n ih =>
    intro S x5 H locs ls h hG hl
    obtain ⟨q1, hq, hc, he⟩ := xlp_at h
    exact w_X12_goLay_71 hg_X12_goLay hM hr hlk (q := q1) hq (fun t0 e => k0 t0 (he _ e).symm) (fun S x5 e H locs ls hG hl => ih S x5 H locs ls (hc _ e) hG hl) hG hl
set_option maxHeartbeats 4000000 in
set_option maxRecDepth 100000 in
theorem w_X12_goLay_0 {d : Nat} {g_X12_goLay : xSt → Int32 → Int32 → Int32 → Int32 → Option (xSt × Unit)} (hg_X12_goLay : ∀ (S : xSt) (x1 : Int32) (x2 : Int32) (x3 : Int32) (x4 : Int32) (S' : xSt) (v' : Unit), g_X12_goLay S x1 x2 x3 x4 = some (S', v') → ∀ sz : Nat, Met l yX12_goLay (Cond.code yX12_goLay cX12_goLay 7 none :: xTB) ({ frames := 8 + d, cells := 0, slots := 0, locals := 179 + d * 26 } : Room) (va_Pc [.ref (a 0), .int x1, .int x2, .int x3, .int x4] (xPre D cy xmb a z S sz)) (xQv D cy xmb a S' v' sz) 0 0 (xA xmb a sz)) {x1 : Int32} {x2 : Int32} {x3 : Int32} {x4 : Int32} (hM : xM p c cX12_goLay m s args RX12 7 D cy xmb a z) (hr : meth.sig.returnType = none) (hlk : meth.locks = false) {S' : xSt} {v' : Unit} {S : xSt} {q : (xSt × Unit)} (h : f_X12_goLay_0 g_X12_goLay x1 x2 x3 x4 S = some q) (k0 : ∀ t0 : xSt × Unit, q = t0 → t0 = (S', v')) {H : Heap} {locs : List Loc} (hG : xG D cy xmb a S s H locs) {ls : Array Slot} (hl : lv_has ls 7 [(0, .ref (a 0)), (1, .int x1), (2, .int x2), (3, .int x3), (4, .int x4)]) : W p l e ({ frames := 8 + (d + 1), cells := 0, slots := 0, locals := 179 + (d + 1) * 26 } : Room) s m args below meth c H locs 0 0 (MQ below (xQv D cy xmb a S' v' s.heap.size) args s 0 0 (xA xmb a s.heap.size)) (F0 m 0 ls []) := by
  have hx := hM.1
  have hb := hM.2.1
  refine lv_iload_n hx hb dX12_goLay_0 rfl (lv_at hl 3 rfl) ?_
  refine lv_aload_n hx hb dX12_goLay_1 rfl (lv_at hl 0 rfl) ?_
  refine x_gi hM hG xfl_X12_343 xmt_0 (by decide) rfl h dX12_goLay_2 (fun v_1 h => ?_)
  refine x_icmp_ge (tgt := 64) hM h dX12_goLay_5 (by decide) (fun c_2 h => ?_) (fun c_2 h => ?_)
  · refine lv_aload_n hx hb dX12_goLay_64 rfl (lv_at hl 0 rfl) ?_
    refine x_cVv (As := []) (rest := []) hM hG xml_X12_273 xwi_X12_layNow xws_X12_layNow xmt_0 (by decide) rfl h (fun S' v e => c_X12_layNow hM.2.2.2.2.2.2.1 e _) ⟨by show _ ≤ 8 + (d + 1); omega, by show _ ≤ 179 + (d + 1) * 26; omega⟩ rfl hl.1 rfl (Nat.le_of_ble_eq_true rfl) dX12_goLay_65 (fun S_3 v_4 H locs h hG => ?_)
    refine lv_iconst (v := (0 : Int32)) hx hb dX12_goLay_68 (by decide) ?_
    refine lv_istore (lv' := [(5, .int (0 : Int32)), (0, .ref (a 0)), (1, .int x1), (2, .int x2), (3, .int x3), (4, .int x4)]) hx hb dX12_goLay_69 hl (by decide) rfl (fun ls hl => ?_)
    exact wl_X12_goLay_71 hg_X12_goLay hM hr hlk (fun t0 e => k0 t0 e) 5000 _ _ _ _ _ h hG (lv_sub hl [1, 2, 3, 0] rfl)
  · refine lv_iconst (v := (0 : Int32)) hx hb dX12_goLay_8 (by decide) ?_
    refine lv_istore (lv' := [(5, .int (0 : Int32)), (0, .ref (a 0)), (1, .int x1), (2, .int x2), (3, .int x3), (4, .int x4)]) hx hb dX12_goLay_9 hl (by decide) rfl (fun ls hl => ?_)
    exact wl_X12_goLay_11 hg_X12_goLay hM hr hlk (fun t0 e => k0 t0 e) 5000 _ _ _ _ _ h hG (lv_sub hl [1, 2, 3, 4, 5, 0] rfl)
set_option maxHeartbeats 4000000 in
set_option maxRecDepth 100000 in
theorem cr_F_X12_goLay {l : Launch} {D : va_G} {cy : Nat → ClassId} {a z : Nat → Nat} (hI : xI xmb a) : ∀ d : Nat, (∀ (S : xSt) (x1 : Int32) (x2 : Int32) (x3 : Int32) (x4 : Int32) (S' : xSt) (v' : Unit), f_X12_goLay d S x1 x2 x3 x4 = some (S', v') → ∀ sz : Nat, Met l yX12_goLay (Cond.code yX12_goLay cX12_goLay 7 none :: xTB) ({ frames := 8 + d, cells := 0, slots := 0, locals := 179 + d * 26 } : Room) (va_Pc [.ref (a 0), .int x1, .int x2, .int x3, .int x4] (xPre D cy xmb a z S sz)) (xQv D cy xmb a S' v' sz) 0 0 (xA xmb a sz)) := by
  intro d
  induction d with
  | zero => exact (fun _ _ _ _ _ _ _ h => by cases h)
  | succ d ih =>
    have ih0 := ih
    intro S x1 x2 x3 x4 S' v' hf sz
    refine Met.ofW (cc := cX12_goLay) (maxL := 7) (ret := none) (by decide) rfl ?_
    intro p e s m args below meth c s₁ B hml hv
    obtain ⟨rfl, hsz, hP, hK, hE⟩ := hv
    subst hsz
    have hl := lv_entry ([.ref (a 0), .int x1, .int x2, .int x3, .int x4]) (n := 7) (Nat.le_of_ble_eq_true rfl)
    rw [lg_entry_eq]
    generalize (lg_sl ([.ref (a 0), .int x1, .int x2, .int x3, .int x4]) ++ List.replicate (7 - (lg_sl ([.ref (a 0), .int x1, .int x2, .int x3, .int x4])).length) Slot.unset).toArray = ls at hl ⊢
    have hl : lv_has ls 7 [(0, .ref (a 0)), (1, .int x1), (2, .int x2), (3, .int x3), (4, .int x4)] := hl
    exact w_X12_goLay_0 ih0 ⟨B.exec, B.bytes, hml, findClass_of_methodNamed B.named, fun w hw => atoms_spec (ws := Cond.code yX12_goLay cX12_goLay 7 none :: xTB) B.pre w (List.mem_cons_of_mem _ hw), hK, hI, hE⟩ B.returns B.notSynchronized hf (fun t0 e => e.symm) ⟨hP, va_S.rf⟩ (lv_sub hl [0, 1, 2, 3, 4] rfl)
theorem c_X12_goLay {l : Launch} {D : va_G} {cy : Nat → ClassId} {a z : Nat → Nat} (hI : xI xmb a) (d : Nat) {S : xSt} {x1 : Int32} {x2 : Int32} {x3 : Int32} {x4 : Int32} {S' : xSt} {v' : Unit} (hf : f_X12_goLay d S x1 x2 x3 x4 = some (S', v')) (sz : Nat) : Met l yX12_goLay (Cond.code yX12_goLay cX12_goLay 7 none :: xTB) ({ frames := 8 + d, cells := 0, slots := 0, locals := 179 + d * 26 } : Room) (va_Pc [.ref (a 0), .int x1, .int x2, .int x3, .int x4] (xPre D cy xmb a z S sz)) (xQv D cy xmb a S' v' sz) 0 0 (xA xmb a sz) := (cr_F_X12_goLay hI d) _ _ _ _ _ _ _ hf sz
set_option maxHeartbeats 4000000 in
set_option maxRecDepth 100000 in
theorem w_X12_lay_128 {x1 : Int32} {x2 : Int32} {x3 : Int32} (hM : xM p c cX12_lay m s args RX12 5 D cy xmb a z) (hr : meth.sig.returnType = (some .int)) (hlk : meth.locks = false) {S' : xSt} {v' : Int32} {S : xSt} {q : (xSt × Int32)} (h : f_X12_lay_128 x1 x2 x3 S = some q) (k0 : ∀ t0 : xSt × Int32, q = t0 → t0 = (S', v')) {H : Heap} {locs : List Loc} (hG : xG D cy xmb a S s H locs) {ls : Array Slot} (hl : lv_has ls 5 [(0, .ref (a 0)), (1, .int x1), (2, .int x2), (3, .int x3)]) : W p l e ({ frames := 79, cells := 0, slots := 0, locals := 2025 } : Room) s m args below meth c H locs 0 0 (MQ below (xQi D cy xmb a S' v' s.heap.size) args s 0 0 (xA xmb a s.heap.size)) (F0 m 128 ls []) := by
  have hx := hM.1
  have hb := hM.2.1
  refine lv_aload_n hx hb dX12_lay_128 rfl (lv_at hl 0 rfl) ?_
  refine lv_bipush (v := (-2 : Int32)) hx hb dX12_lay_129 (by decide) ?_
  refine x_pi hM hG xfl_X12_353 xfp_X12_42 xmt_0 (by decide) rfl rfl rfl h dX12_lay_131 (fun S_1 H locs h hG => ?_)
  refine lv_aload_n hx hb dX12_lay_134 rfl (lv_at hl 0 rfl) ?_
  refine lv_iload_n hx hb dX12_lay_135 rfl (lv_at hl 1 rfl) ?_
  refine lv_iload_n hx hb dX12_lay_136 rfl (lv_at hl 2 rfl) ?_
  refine lv_iconst (v := (0 : Int32)) hx hb dX12_lay_137 (by decide) ?_
  refine lv_iconst (v := (0 : Int32)) hx hb dX12_lay_138 (by decide) ?_
  refine x_cVv (As := [.int x1, .int x2, .int (0 : Int32), .int (0 : Int32)]) (rest := []) hM hG xml_X12_346 xwi_X12_goLay xws_X12_goLay xmt_0 (by decide) rfl h (fun S' v e => c_X12_goLay hM.2.2.2.2.2.2.1 70 e _) ⟨Nat.le_of_ble_eq_true rfl, Nat.le_of_ble_eq_true rfl⟩ rfl hl.1 rfl (Nat.le_of_ble_eq_true rfl) dX12_lay_139 (fun S_2 v_3 H locs h hG => ?_)
  refine lv_aload_n hx hb dX12_lay_142 rfl (lv_at hl 0 rfl) ?_
  refine x_gi hM hG xfl_X12_353 xmt_0 (by decide) rfl h dX12_lay_143 (fun v_4 h => ?_)
  refine x_if_lt (tgt := 157) hM h dX12_lay_146 (by decide) (fun c_5 h => ?_) (fun c_5 h => ?_)
  · refine lv_bipush (v := (-2 : Int32)) hx hb dX12_lay_157 (by decide) ?_
    exact x_ri hM hG hr hlk rfl (k0 _ (Option.some.inj h).symm) dX12_lay_159
  · refine lv_iload_n hx hb dX12_lay_149 rfl (lv_at hl 3 rfl) ?_
    refine lv_aload_n hx hb dX12_lay_150 rfl (lv_at hl 0 rfl) ?_
    refine x_gi hM hG xfl_X12_343 xmt_0 (by decide) rfl h dX12_lay_151 (fun v_6 h => ?_)
    refine x_icmp_lt (tgt := 160) hM h dX12_lay_154 (by decide) (fun c_7 h => ?_) (fun c_7 h => ?_)
    · refine lv_iload_n hx hb dX12_lay_160 rfl (lv_at hl 3 rfl) ?_
      refine x_if_ge (tgt := 171) hM h dX12_lay_161 (by decide) (fun c_8 h => ?_) (fun c_8 h => ?_)
      · refine lv_aload_n hx hb dX12_lay_171 rfl (lv_at hl 0 rfl) ?_
        refine x_gr (r := 30) hM hG xfl_X12_101 xmt_0 (by decide) rfl dX12_lay_172 ?_
        refine lv_iload_n hx hb dX12_lay_175 rfl (lv_at hl 3 rfl) ?_
        refine x_iald hM hG xmt_30 h dX12_lay_176 (fun v_9 h => ?_)
        exact x_ri hM hG hr hlk rfl (k0 _ (Option.some.inj h).symm) dX12_lay_177
      · refine lv_aload_n hx hb dX12_lay_164 rfl (lv_at hl 0 rfl) ?_
        refine x_gi hM hG xfl_X12_353 xmt_0 (by decide) rfl h dX12_lay_165 (fun v_10 h => ?_)
        refine lv_goto (tgt := 177) hx hb dX12_lay_168 (by decide) ?_
        exact x_ri hM hG hr hlk rfl (k0 _ (Option.some.inj h).symm) dX12_lay_177
    · refine lv_bipush (v := (-2 : Int32)) hx hb dX12_lay_157 (by decide) ?_
      exact x_ri hM hG hr hlk rfl (k0 _ (Option.some.inj h).symm) dX12_lay_159
set_option maxHeartbeats 4000000 in
set_option maxRecDepth 100000 in
theorem w_X12_lay_99 {x1 : Int32} {x2 : Int32} {x3 : Int32} {x4 : Int32} (hM : xM p c cX12_lay m s args RX12 5 D cy xmb a z) (hr : meth.sig.returnType = (some .int)) (hlk : meth.locks = false) {S' : xSt} {v' : Int32} {S : xSt} {q : ((xSt × Int32) ⊕ (xSt × Int32))} (h : f_X12_lay_99 x1 x2 x3 S x4 = some q) (k0 : ∀ t0 : xSt × Int32, q = (.inr t0) → t0 = (S', v')) (k1 : ∀ (S : xSt) (x4 : Int32), q = (.inl (S, x4)) → ∀ (H : Heap) (locs : List Loc) (ls : Array Slot), xG D cy xmb a S s H locs → lv_has ls 5 [(0, .ref (a 0)), (1, .int x1), (2, .int x2), (3, .int x3), (4, .int x4)] → W p l e ({ frames := 79, cells := 0, slots := 0, locals := 2025 } : Room) s m args below meth c H locs 0 0 (MQ below (xQi D cy xmb a S' v' s.heap.size) args s 0 0 (xA xmb a s.heap.size)) (F0 m 99 ls [])) {H : Heap} {locs : List Loc} (hG : xG D cy xmb a S s H locs) {ls : Array Slot} (hl : lv_has ls 5 [(0, .ref (a 0)), (1, .int x1), (2, .int x2), (3, .int x3), (4, .int x4)]) : W p l e ({ frames := 79, cells := 0, slots := 0, locals := 2025 } : Room) s m args below meth c H locs 0 0 (MQ below (xQi D cy xmb a S' v' s.heap.size) args s 0 0 (xA xmb a s.heap.size)) (F0 m 99 ls []) := by
  have hx := hM.1
  have hb := hM.2.1
  refine lv_iload hx hb dX12_lay_99 (lv_at hl 4 rfl) ?_
  refine lv_aload_n hx hb dX12_lay_101 rfl (lv_at hl 0 rfl) ?_
  refine x_gi hM hG xfl_X12_343 xmt_0 (by decide) rfl h dX12_lay_102 (fun v_1 h => ?_)
  refine x_icmp_ge (tgt := 128) hM h dX12_lay_105 (by decide) (fun c_2 h => ?_) (fun c_2 h => ?_)
  · obtain ⟨q1, h, e1⟩ := xmr_at h
    exact w_X12_lay_128 hM hr hlk h (fun t0 e => k0 t0 (by rw [e1, e])) hG (lv_sub hl [0, 1, 2, 3] rfl)
  · refine lv_aload_n hx hb dX12_lay_108 rfl (lv_at hl 0 rfl) ?_
    refine x_gr (r := 1) hM hG xfl_X12_9 xmt_0 (by decide) rfl dX12_lay_109 ?_
    refine lv_iload hx hb dX12_lay_112 (lv_at hl 4 rfl) ?_
    refine x_iald hM hG xmt_1 h dX12_lay_114 (fun v_3 h => ?_)
    refine lv_iconst (v := (5 : Int32)) hx hb dX12_lay_115 (by decide) ?_
    refine x_icmp_ne (tgt := 122) hM h dX12_lay_116 (by decide) (fun c_4 h => ?_) (fun c_4 h => ?_)
    · refine x_iinc hM (fun v => [(4, .int v), (0, .ref (a 0)), (1, .int x1), (2, .int x2), (3, .int x3)]) h dX12_lay_122 hl (k := 4) rfl (by decide) (by decide) (fun _ => rfl) (fun v_5 ls h hl => ?_)
      refine lv_goto (tgt := 99) hx hb dX12_lay_125 (by decide) ?_
      exact k1 _ _ (Option.some.inj h).symm _ _ _ hG (lv_sub hl [1, 2, 3, 4, 0] rfl)
    · refine lv_bipush (v := (-2 : Int32)) hx hb dX12_lay_119 (by decide) ?_
      exact x_ri hM hG hr hlk rfl (k0 _ (Option.some.inj h).symm) dX12_lay_121
theorem wl_X12_lay_99 {x1 : Int32} {x2 : Int32} {x3 : Int32} (hM : xM p c cX12_lay m s args RX12 5 D cy xmb a z) (hr : meth.sig.returnType = (some .int)) (hlk : meth.locks = false) {S' : xSt} {v' : Int32} {q : (xSt × Int32)} (k0 : ∀ t0 : xSt × Int32, q = t0 → t0 = (S', v')) (n : Nat) : ∀ (S : xSt) (x4 : Int32) (H : Heap) (locs : List Loc) (ls : Array Slot), xlp (fun q : (xSt × Int32) => f_X12_lay_99 x1 x2 x3 q.1 q.2) n (S, x4) = some q → xG D cy xmb a S s H locs → lv_has ls 5 [(0, .ref (a 0)), (1, .int x1), (2, .int x2), (3, .int x3), (4, .int x4)] → W p l e ({ frames := 79, cells := 0, slots := 0, locals := 2025 } : Room) s m args below meth c H locs 0 0 (MQ below (xQi D cy xmb a S' v' s.heap.size) args s 0 0 (xA xmb a s.heap.size)) (F0 m 99 ls []) := by
  induction n with
  | zero => intro S x4 H locs ls h; exact (xlp_0 h).elim
  | succ n ih =>
    intro S x4 H locs ls h hG hl
    obtain ⟨q1, hq, hc, he⟩ := xlp_at h
    exact w_X12_lay_99 hM hr hlk (q := q1) hq (fun t0 e => k0 t0 (he _ e).symm) (fun S x4 e H locs ls hG hl => ih S x4 H locs ls (hc _ e) hG hl) hG hl
set_option maxHeartbeats 4000000 in
set_option maxRecDepth 100000 in
theorem w_X12_lay_96 {x1 : Int32} {x2 : Int32} {x3 : Int32} (hM : xM p c cX12_lay m s args RX12 5 D cy xmb a z) (hr : meth.sig.returnType = (some .int)) (hlk : meth.locks = false) {S' : xSt} {v' : Int32} {S : xSt} {q : (xSt × Int32)} (h : f_X12_lay_96 x1 x2 x3 S = some q) (k0 : ∀ t0 : xSt × Int32, q = t0 → t0 = (S', v')) {H : Heap} {locs : List Loc} (hG : xG D cy xmb a S s H locs) {ls : Array Slot} (hl : lv_has ls 5 [(0, .ref (a 0)), (1, .int x1), (2, .int x2), (3, .int x3)]) : W p l e ({ frames := 79, cells := 0, slots := 0, locals := 2025 } : Room) s m args below meth c H locs 0 0 (MQ below (xQi D cy xmb a S' v' s.heap.size) args s 0 0 (xA xmb a s.heap.size)) (F0 m 96 ls []) := by
  have hx := hM.1
  have hb := hM.2.1
  refine lv_iconst (v := (0 : Int32)) hx hb dX12_lay_96 (by decide) ?_
  refine lv_istore (lv' := [(4, .int (0 : Int32)), (0, .ref (a 0)), (1, .int x1), (2, .int x2), (3, .int x3)]) hx hb dX12_lay_97 hl (by decide) rfl (fun ls hl => ?_)
  exact wl_X12_lay_99 hM hr hlk (fun t0 e => k0 t0 e) 5000 _ _ _ _ _ h hG (lv_sub hl [1, 2, 3, 4, 0] rfl)
set_option maxHeartbeats 4000000 in
set_option maxRecDepth 100000 in
theorem w_X12_lay_43 {x1 : Int32} {x2 : Int32} {x3 : Int32} (hM : xM p c cX12_lay m s args RX12 5 D cy xmb a z) (hr : meth.sig.returnType = (some .int)) (hlk : meth.locks = false) {S' : xSt} {v' : Int32} {S : xSt} {q : (xSt ⊕ (xSt × Int32))} (h : f_X12_lay_43 x1 x2 x3 S = some q) (k0 : ∀ t0 : xSt × Int32, q = (.inr t0) → t0 = (S', v')) (k1 : ∀ (S : xSt) , q = (.inl S) → ∀ (H : Heap) (locs : List Loc) (ls : Array Slot), xG D cy xmb a S s H locs → lv_has ls 5 [(0, .ref (a 0)), (1, .int x1), (2, .int x2), (3, .int x3)] → W p l e ({ frames := 79, cells := 0, slots := 0, locals := 2025 } : Room) s m args below meth c H locs 0 0 (MQ below (xQi D cy xmb a S' v' s.heap.size) args s 0 0 (xA xmb a s.heap.size)) (F0 m 43 ls [])) {H : Heap} {locs : List Loc} (hG : xG D cy xmb a S s H locs) {ls : Array Slot} (hl : lv_has ls 5 [(0, .ref (a 0)), (1, .int x1), (2, .int x2), (3, .int x3)]) : W p l e ({ frames := 79, cells := 0, slots := 0, locals := 2025 } : Room) s m args below meth c H locs 0 0 (MQ below (xQi D cy xmb a S' v' s.heap.size) args s 0 0 (xA xmb a s.heap.size)) (F0 m 43 ls []) := by
  have hx := hM.1
  have hb := hM.2.1
  refine lv_aload_n hx hb dX12_lay_43 rfl (lv_at hl 0 rfl) ?_
  refine x_gi hM hG xfl_X12_343 xmt_0 (by decide) rfl h dX12_lay_44 (fun v_1 h => ?_)
  refine lv_bipush (v := (6 : Int32)) hx hb dX12_lay_47 (by decide) ?_
  refine x_icmp_ge (tgt := 96) hM h dX12_lay_49 (by decide) (fun c_2 h => ?_) (fun c_2 h => ?_)
  · obtain ⟨q1, h, e1⟩ := xmr_at h
    exact w_X12_lay_96 hM hr hlk h (fun t0 e => k0 t0 (by rw [e1, e])) hG (lv_sub hl [0, 1, 2, 3] rfl)
  · refine lv_aload_n hx hb dX12_lay_52 rfl (lv_at hl 0 rfl) ?_
    refine x_gi hM hG xfl_X12_343 xmt_0 (by decide) rfl h dX12_lay_53 (fun v_3 h => ?_)
    refine lv_aload_n hx hb dX12_lay_56 rfl (lv_at hl 0 rfl) ?_
    refine x_gr (r := 38) hM hG xfl_X12_129 xmt_0 (by decide) rfl dX12_lay_57 ?_
    refine lv_iload_n hx hb dX12_lay_60 rfl (lv_at hl 1 rfl) ?_
    refine x_iald hM hG xmt_38 h dX12_lay_61 (fun v_4 h => ?_)
    refine x_icmp_ge (tgt := 96) hM h dX12_lay_62 (by decide) (fun c_5 h => ?_) (fun c_5 h => ?_)
    · obtain ⟨q1, h, e1⟩ := xmr_at h
      exact w_X12_lay_96 hM hr hlk h (fun t0 e => k0 t0 (by rw [e1, e])) hG (lv_sub hl [0, 1, 2, 3] rfl)
    · refine lv_aload_n hx hb dX12_lay_65 rfl (lv_at hl 0 rfl) ?_
      refine lv_iload_n hx hb dX12_lay_66 rfl (lv_at hl 1 rfl) ?_
      refine lv_aload_n hx hb dX12_lay_67 rfl (lv_at hl 0 rfl) ?_
      refine x_gi hM hG xfl_X12_343 xmt_0 (by decide) rfl h dX12_lay_68 (fun v_6 h => ?_)
      refine x_cVi (As := [.int x1, .int v_6]) (rest := []) hM hG xml_X12_350 xwi_X12_at xws_X12_at xmt_0 (by decide) rfl h (fun S' v e => c_X12_at hM.2.2.2.2.2.2.1 e _) ⟨Nat.le_of_ble_eq_true rfl, Nat.le_of_ble_eq_true rfl⟩ rfl hl.1 rfl (Nat.le_of_ble_eq_true rfl) dX12_lay_71 (fun S_7 v_8 H locs h hG => ?_)
      refine lv_iconst (v := (0 : Int32)) hx hb dX12_lay_74 (by decide) ?_
      refine lv_bipush (v := (9 : Int32)) hx hb dX12_lay_75 (by decide) ?_
      refine x_cSi (As := [.int v_8, .int (0 : Int32), .int (9 : Int32)]) (rest := []) hM hG xml_X12_142 xwt_X12_in h (fun S' v e => c_X12_in hM.2.2.2.2.2.2.1 e _) ⟨Nat.le_of_ble_eq_true rfl, Nat.le_of_ble_eq_true rfl⟩ rfl hl.1 rfl (Nat.le_of_ble_eq_true rfl) dX12_lay_77 (fun S_9 v_10 H locs h hG => ?_)
      refine x_if_eq (tgt := 96) hM h dX12_lay_80 (by decide) (fun c_11 h => ?_) (fun c_11 h => ?_)
      · obtain ⟨q1, h, e1⟩ := xmr_at h
        exact w_X12_lay_96 hM hr hlk h (fun t0 e => k0 t0 (by rw [e1, e])) hG (lv_sub hl [0, 1, 2, 3] rfl)
      · refine lv_aload_n hx hb dX12_lay_83 rfl (lv_at hl 0 rfl) ?_
        refine lv_dup hx hb dX12_lay_84 rfl ?_
        refine x_gi hM hG xfl_X12_343 xmt_0 (by decide) rfl h dX12_lay_85 (fun v_12 h => ?_)
        refine lv_iconst (v := (1 : Int32)) hx hb dX12_lay_88 (by decide) ?_
        refine x_iadd hM h dX12_lay_89 (fun v_13 h => ?_)
        refine x_pi hM hG xfl_X12_343 xfp_X12_41 xmt_0 (by decide) rfl rfl rfl h dX12_lay_90 (fun S_14 H locs h hG => ?_)
        refine lv_goto (tgt := 43) hx hb dX12_lay_93 (by decide) ?_
        exact k1 _ (Option.some.inj h).symm _ _ _ hG (lv_sub hl [0, 1, 2, 3] rfl)
theorem wl_X12_lay_43 {x1 : Int32} {x2 : Int32} {x3 : Int32} (hM : xM p c cX12_lay m s args RX12 5 D cy xmb a z) (hr : meth.sig.returnType = (some .int)) (hlk : meth.locks = false) {S' : xSt} {v' : Int32} {q : (xSt × Int32)} (k0 : ∀ t0 : xSt × Int32, q = t0 → t0 = (S', v')) (n : Nat) : ∀ (S : xSt)  (H : Heap) (locs : List Loc) (ls : Array Slot), xlp (fun q : xSt => f_X12_lay_43 x1 x2 x3 q) n S = some q → xG D cy xmb a S s H locs → lv_has ls 5 [(0, .ref (a 0)), (1, .int x1), (2, .int x2), (3, .int x3)] → W p l e ({ frames := 79, cells := 0, slots := 0, locals := 2025 } : Room) s m args below meth c H locs 0 0 (MQ below (xQi D cy xmb a S' v' s.heap.size) args s 0 0 (xA xmb a s.heap.size)) (F0 m 43 ls []) := by
  induction n with
  | zero => intro S H locs ls h; exact (xlp_0 h).elim
  | succ n ih =>
    intro S H locs ls h hG hl
    obtain ⟨q1, hq, hc, he⟩ := xlp_at h
    exact w_X12_lay_43 hM hr hlk (q := q1) hq (fun t0 e => k0 t0 (he _ e).symm) (fun S e H locs ls hG hl => ih S H locs ls (hc _ e) hG hl) hG hl
set_option maxHeartbeats 4000000 in
set_option maxRecDepth 100000 in
theorem w_X12_lay_0 {x1 : Int32} {x2 : Int32} {x3 : Int32} (hM : xM p c cX12_lay m s args RX12 5 D cy xmb a z) (hr : meth.sig.returnType = (some .int)) (hlk : meth.locks = false) {S' : xSt} {v' : Int32} {S : xSt} {q : (xSt × Int32)} (h : f_X12_lay_0 x1 x2 x3 S = some q) (k0 : ∀ t0 : xSt × Int32, q = t0 → t0 = (S', v')) {H : Heap} {locs : List Loc} (hG : xG D cy xmb a S s H locs) {ls : Array Slot} (hl : lv_has ls 5 [(0, .ref (a 0)), (1, .int x1), (2, .int x2), (3, .int x3)]) : W p l e ({ frames := 79, cells := 0, slots := 0, locals := 2025 } : Room) s m args below meth c H locs 0 0 (MQ below (xQi D cy xmb a S' v' s.heap.size) args s 0 0 (xA xmb a s.heap.size)) (F0 m 0 ls []) := by
  have hx := hM.1
  have hb := hM.2.1
  refine lv_iload_n hx hb dX12_lay_0 rfl (lv_at hl 1 rfl) ?_
  refine x_cSi (As := [.int x1]) (rest := []) hM hG xml_X12_154 xwt_X12_isShelf h (fun S' v e => c_X12_isShelf hM.2.2.2.2.2.2.1 e _) ⟨Nat.le_of_ble_eq_true rfl, Nat.le_of_ble_eq_true rfl⟩ rfl hl.1 rfl (Nat.le_of_ble_eq_true rfl) dX12_lay_1 (fun S_1 v_2 H locs h hG => ?_)
  refine x_if_eq (tgt := 22) hM h dX12_lay_4 (by decide) (fun c_3 h => ?_) (fun c_3 h => ?_)
  · refine lv_iconst (v := (-1 : Int32)) hx hb dX12_lay_22 (by decide) ?_
    exact x_ri hM hG hr hlk rfl (k0 _ (Option.some.inj h).symm) dX12_lay_23
  · refine lv_iload_n hx hb dX12_lay_7 rfl (lv_at hl 2 rfl) ?_
    refine lv_iconst (v := (0 : Int32)) hx hb dX12_lay_8 (by decide) ?_
    refine lv_bipush (v := (8 : Int32)) hx hb dX12_lay_9 (by decide) ?_
    refine x_cSi (As := [.int x2, .int (0 : Int32), .int (8 : Int32)]) (rest := []) hM hG xml_X12_142 xwt_X12_in h (fun S' v e => c_X12_in hM.2.2.2.2.2.2.1 e _) ⟨Nat.le_of_ble_eq_true rfl, Nat.le_of_ble_eq_true rfl⟩ rfl hl.1 rfl (Nat.le_of_ble_eq_true rfl) dX12_lay_11 (fun S_4 v_5 H locs h hG => ?_)
    refine x_if_eq (tgt := 22) hM h dX12_lay_14 (by decide) (fun c_6 h => ?_) (fun c_6 h => ?_)
    · refine lv_iconst (v := (-1 : Int32)) hx hb dX12_lay_22 (by decide) ?_
      exact x_ri hM hG hr hlk rfl (k0 _ (Option.some.inj h).symm) dX12_lay_23
    · refine lv_iload_n hx hb dX12_lay_17 rfl (lv_at hl 3 rfl) ?_
      refine lv_iconst (v := (-1 : Int32)) hx hb dX12_lay_18 (by decide) ?_
      refine x_icmp_ge (tgt := 24) hM h dX12_lay_19 (by decide) (fun c_7 h => ?_) (fun c_7 h => ?_)
      · refine lv_aload_n hx hb dX12_lay_24 rfl (lv_at hl 0 rfl) ?_
        refine lv_iload_n hx hb dX12_lay_25 rfl (lv_at hl 1 rfl) ?_
        refine x_cVi (As := [.int x1]) (rest := []) hM hG xml_X12_356 xwi_X12_rowFault xws_X12_rowFault xmt_0 (by decide) rfl h (fun S' v e => c_X12_rowFault hM.2.2.2.2.2.2.1 e _) ⟨Nat.le_of_ble_eq_true rfl, Nat.le_of_ble_eq_true rfl⟩ rfl hl.1 rfl (Nat.le_of_ble_eq_true rfl) dX12_lay_26 (fun S_8 v_9 H locs h hG => ?_)
        refine x_if_ge (tgt := 38) hM h dX12_lay_29 (by decide) (fun c_10 h => ?_) (fun c_10 h => ?_)
        · refine lv_aload_n hx hb dX12_lay_38 rfl (lv_at hl 0 rfl) ?_
          refine lv_iconst (v := (0 : Int32)) hx hb dX12_lay_39 (by decide) ?_
          refine x_pi hM hG xfl_X12_343 xfp_X12_41 xmt_0 (by decide) rfl rfl rfl h dX12_lay_40 (fun S_11 H locs h hG => ?_)
          exact wl_X12_lay_43 hM hr hlk (fun t0 e => k0 t0 e) 5000 _ _ _ _ h hG (lv_sub hl [0, 1, 2, 3] rfl)
        · refine lv_aload_n hx hb dX12_lay_32 rfl (lv_at hl 0 rfl) ?_
          refine lv_iload_n hx hb dX12_lay_33 rfl (lv_at hl 1 rfl) ?_
          refine x_cVi (As := [.int x1]) (rest := []) hM hG xml_X12_356 xwi_X12_rowFault xws_X12_rowFault xmt_0 (by decide) rfl h (fun S' v e => c_X12_rowFault hM.2.2.2.2.2.2.1 e _) ⟨Nat.le_of_ble_eq_true rfl, Nat.le_of_ble_eq_true rfl⟩ rfl hl.1 rfl (Nat.le_of_ble_eq_true rfl) dX12_lay_34 (fun S_12 v_13 H locs h hG => ?_)
          exact x_ri hM hG hr hlk rfl (k0 _ (Option.some.inj h).symm) dX12_lay_37
      · refine lv_iconst (v := (-1 : Int32)) hx hb dX12_lay_22 (by decide) ?_
        exact x_ri hM hG hr hlk rfl (k0 _ (Option.some.inj h).symm) dX12_lay_23
set_option maxHeartbeats 4000000 in
set_option maxRecDepth 100000 in
theorem c_X12_lay {l : Launch} {D : va_G} {cy : Nat → ClassId} {a z : Nat → Nat} (hI : xI xmb a) {S : xSt} {x1 : Int32} {x2 : Int32} {x3 : Int32} {S' : xSt} {v' : Int32} (hf : f_X12_lay S x1 x2 x3 = some (S', v')) (sz : Nat) : Met l yX12_lay (Cond.code yX12_lay cX12_lay 5 (some .int) :: xTB) ({ frames := 79, cells := 0, slots := 0, locals := 2025 } : Room) (va_Pc [.ref (a 0), .int x1, .int x2, .int x3] (xPre D cy xmb a z S sz)) (xQi D cy xmb a S' v' sz) 0 0 (xA xmb a sz) := by
  refine Met.ofW (cc := cX12_lay) (maxL := 5) (ret := (some .int)) (by decide) rfl ?_
  intro p e s m args below meth c s₁ B hml hv
  obtain ⟨rfl, hsz, hP, hK, hE⟩ := hv
  subst hsz
  have hl := lv_entry ([.ref (a 0), .int x1, .int x2, .int x3]) (n := 5) (Nat.le_of_ble_eq_true rfl)
  rw [lg_entry_eq]
  generalize (lg_sl ([.ref (a 0), .int x1, .int x2, .int x3]) ++ List.replicate (5 - (lg_sl ([.ref (a 0), .int x1, .int x2, .int x3])).length) Slot.unset).toArray = ls at hl ⊢
  have hl : lv_has ls 5 [(0, .ref (a 0)), (1, .int x1), (2, .int x2), (3, .int x3)] := hl
  exact w_X12_lay_0 ⟨B.exec, B.bytes, hml, findClass_of_methodNamed B.named, fun w hw => atoms_spec (ws := Cond.code yX12_lay cX12_lay 5 (some .int) :: xTB) B.pre w (List.mem_cons_of_mem _ hw), hK, hI, hE⟩ B.returns B.notSynchronized hf (fun t0 e => e.symm) ⟨hP, va_S.rf⟩ (lv_sub hl [0, 1, 2, 3] rfl)
set_option maxHeartbeats 4000000 in
set_option maxRecDepth 100000 in
theorem w_X12_worthNow_45 {x1 : Int32} {x2 : Int32} (hM : xM p c cX12_worthNow m s args RX12 3 D cy xmb a z) (hr : meth.sig.returnType = (some .int)) (hlk : meth.locks = false) {S' : xSt} {v' : Int32} {S : xSt} {q : ((xSt × Int32 × Int32) ⊕ (xSt × Int32))} (h : f_X12_worthNow_45 x1 x2 S = some q) (k0 : ∀ t0 : xSt × Int32, q = (.inr t0) → t0 = (S', v')) (k1 : ∀ (S : xSt) (x1 : Int32) (x2 : Int32), q = (.inl (S, x1, x2)) → ∀ (H : Heap) (locs : List Loc) (ls : Array Slot), xG D cy xmb a S s H locs → lv_has ls 3 [(0, .ref (a 0)), (1, .int x1), (2, .int x2)] → W p l e ({ frames := 1, cells := 0, slots := 0, locals := 21 } : Room) s m args below meth c H locs 0 0 (MQ below (xQi D cy xmb a S' v' s.heap.size) args s 0 0 (xA xmb a s.heap.size)) (F0 m 4 ls [])) {H : Heap} {locs : List Loc} (hG : xG D cy xmb a S s H locs) {ls : Array Slot} (hl : lv_has ls 3 [(0, .ref (a 0)), (1, .int x1), (2, .int x2)]) : W p l e ({ frames := 1, cells := 0, slots := 0, locals := 21 } : Room) s m args below meth c H locs 0 0 (MQ below (xQi D cy xmb a S' v' s.heap.size) args s 0 0 (xA xmb a s.heap.size)) (F0 m 45 ls []) := by
  have hx := hM.1
  have hb := hM.2.1
  refine x_iinc hM (fun v => [(2, .int v), (0, .ref (a 0)), (1, .int x1)]) h dX12_worthNow_45 hl (k := 2) rfl (by decide) (by decide) (fun _ => rfl) (fun v_1 ls h hl => ?_)
  refine lv_goto (tgt := 4) hx hb dX12_worthNow_48 (by decide) ?_
  exact k1 _ _ _ (Option.some.inj h).symm _ _ _ hG (lv_sub hl [1, 2, 0] rfl)
set_option maxHeartbeats 4000000 in
set_option maxRecDepth 100000 in
theorem w_X12_worthNow_4 {x1 : Int32} {x2 : Int32} (hM : xM p c cX12_worthNow m s args RX12 3 D cy xmb a z) (hr : meth.sig.returnType = (some .int)) (hlk : meth.locks = false) {S' : xSt} {v' : Int32} {S : xSt} {q : ((xSt × Int32 × Int32) ⊕ (xSt × Int32))} (h : f_X12_worthNow_4 S x1 x2 = some q) (k0 : ∀ t0 : xSt × Int32, q = (.inr t0) → t0 = (S', v')) (k1 : ∀ (S : xSt) (x1 : Int32) (x2 : Int32), q = (.inl (S, x1, x2)) → ∀ (H : Heap) (locs : List Loc) (ls : Array Slot), xG D cy xmb a S s H locs → lv_has ls 3 [(0, .ref (a 0)), (1, .int x1), (2, .int x2)] → W p l e ({ frames := 1, cells := 0, slots := 0, locals := 21 } : Room) s m args below meth c H locs 0 0 (MQ below (xQi D cy xmb a S' v' s.heap.size) args s 0 0 (xA xmb a s.heap.size)) (F0 m 4 ls [])) {H : Heap} {locs : List Loc} (hG : xG D cy xmb a S s H locs) {ls : Array Slot} (hl : lv_has ls 3 [(0, .ref (a 0)), (1, .int x1), (2, .int x2)]) : W p l e ({ frames := 1, cells := 0, slots := 0, locals := 21 } : Room) s m args below meth c H locs 0 0 (MQ below (xQi D cy xmb a S' v' s.heap.size) args s 0 0 (xA xmb a s.heap.size)) (F0 m 4 ls []) := by
  have hx := hM.1
  have hb := hM.2.1
  refine lv_iload_n hx hb dX12_worthNow_4 rfl (lv_at hl 2 rfl) ?_
  refine lv_bipush (v := (30 : Int32)) hx hb dX12_worthNow_5 (by decide) ?_
  refine x_icmp_ge (tgt := 51) hM h dX12_worthNow_7 (by decide) (fun c_1 h => ?_) (fun c_1 h => ?_)
  · refine lv_iload_n hx hb dX12_worthNow_51 rfl (lv_at hl 1 rfl) ?_
    exact x_ri hM hG hr hlk rfl (k0 _ (Option.some.inj h).symm) dX12_worthNow_52
  · refine lv_aload_n hx hb dX12_worthNow_10 rfl (lv_at hl 0 rfl) ?_
    refine lv_iload_n hx hb dX12_worthNow_11 rfl (lv_at hl 2 rfl) ?_
    refine x_cVi (As := [.int x2]) (rest := []) hM hG xml_X12_279 xwi_X12_isThereNow xws_X12_isThereNow xmt_0 (by decide) rfl h (fun S' v e => c_X12_isThereNow hM.2.2.2.2.2.2.1 e _) ⟨Nat.le_of_ble_eq_true rfl, Nat.le_of_ble_eq_true rfl⟩ rfl hl.1 rfl (Nat.le_of_ble_eq_true rfl) dX12_worthNow_12 (fun S_2 v_3 H locs h hG => ?_)
    refine x_if_eq (tgt := 45) hM h dX12_worthNow_15 (by decide) (fun c_4 h => ?_) (fun c_4 h => ?_)
    · exact w_X12_worthNow_45 hM hr hlk h (fun t0 e => k0 t0 e) (fun S x1 x2 e => k1 S x1 x2 e) hG (lv_sub hl [0, 1, 2] rfl)
    · refine lv_aload_n hx hb dX12_worthNow_18 rfl (lv_at hl 0 rfl) ?_
      refine x_gr (r := 24) hM hG xfl_X12_83 xmt_0 (by decide) rfl dX12_worthNow_19 ?_
      refine lv_iload_n hx hb dX12_worthNow_22 rfl (lv_at hl 2 rfl) ?_
      refine x_iald hM hG xmt_24 h dX12_worthNow_23 (fun v_5 h => ?_)
      refine lv_aload_n hx hb dX12_worthNow_24 rfl (lv_at hl 0 rfl) ?_
      refine x_gr (r := 8) hM hG xfl_X12_33 xmt_0 (by decide) rfl dX12_worthNow_25 ?_
      refine lv_iconst (v := (0 : Int32)) hx hb dX12_worthNow_28 (by decide) ?_
      refine x_iald hM hG xmt_8 h dX12_worthNow_29 (fun v_6 h => ?_)
      refine x_icmp_ge (tgt := 45) hM h dX12_worthNow_30 (by decide) (fun c_7 h => ?_) (fun c_7 h => ?_)
      · exact w_X12_worthNow_45 hM hr hlk h (fun t0 e => k0 t0 e) (fun S x1 x2 e => k1 S x1 x2 e) hG (lv_sub hl [0, 1, 2] rfl)
      · refine lv_iload_n hx hb dX12_worthNow_33 rfl (lv_at hl 1 rfl) ?_
        refine lv_aload_n hx hb dX12_worthNow_34 rfl (lv_at hl 0 rfl) ?_
        refine x_gr (r := 25) hM hG xfl_X12_86 xmt_0 (by decide) rfl dX12_worthNow_35 ?_
        refine lv_iload_n hx hb dX12_worthNow_38 rfl (lv_at hl 2 rfl) ?_
        refine x_iald hM hG xmt_25 h dX12_worthNow_39 (fun v_8 h => ?_)
        refine lv_bipush (v := (9 : Int32)) hx hb dX12_worthNow_40 (by decide) ?_
        refine x_idiv hM h dX12_worthNow_42 (fun v_9 h => ?_)
        refine x_iadd hM h dX12_worthNow_43 (fun v_10 h => ?_)
        refine lv_istore_n (lv' := [(1, .int v_10), (0, .ref (a 0)), (2, .int x2)]) hx hb dX12_worthNow_44 rfl hl (by decide) rfl (fun ls hl => ?_)
        exact w_X12_worthNow_45 hM hr hlk h (fun t0 e => k0 t0 e) (fun S x1 x2 e => k1 S x1 x2 e) hG (lv_sub hl [1, 0, 2] rfl)
theorem wl_X12_worthNow_4 (hM : xM p c cX12_worthNow m s args RX12 3 D cy xmb a z) (hr : meth.sig.returnType = (some .int)) (hlk : meth.locks = false) {S' : xSt} {v' : Int32} {q : (xSt × Int32)} (k0 : ∀ t0 : xSt × Int32, q = t0 → t0 = (S', v')) (n : Nat) : ∀ (S : xSt) (x1 : Int32) (x2 : Int32) (H : Heap) (locs : List Loc) (ls : Array Slot), xlp (fun q : (xSt × Int32 × Int32) => f_X12_worthNow_4 q.1 q.2.1 q.2.2) n (S, x1, x2) = some q → xG D cy xmb a S s H locs → lv_has ls 3 [(0, .ref (a 0)), (1, .int x1), (2, .int x2)] → W p l e ({ frames := 1, cells := 0, slots := 0, locals := 21 } : Room) s m args below meth c H locs 0 0 (MQ below (xQi D cy xmb a S' v' s.heap.size) args s 0 0 (xA xmb a s.heap.size)) (F0 m 4 ls []) := by
  induction n with
  | zero => intro S x1 x2 H locs ls h; exact (xlp_0 h).elim
  | succ n ih =>
    intro S x1 x2 H locs ls h hG hl
    obtain ⟨q1, hq, hc, he⟩ := xlp_at h
    exact w_X12_worthNow_4 hM hr hlk (q := q1) hq (fun t0 e => k0 t0 (he _ e).symm) (fun S x1 x2 e H locs ls hG hl => ih S x1 x2 H locs ls (hc _ e) hG hl) hG hl
set_option maxHeartbeats 4000000 in
set_option maxRecDepth 100000 in
theorem w_X12_worthNow_0 (hM : xM p c cX12_worthNow m s args RX12 3 D cy xmb a z) (hr : meth.sig.returnType = (some .int)) (hlk : meth.locks = false) {S' : xSt} {v' : Int32} {S : xSt} {q : (xSt × Int32)} (h : f_X12_worthNow_0 S = some q) (k0 : ∀ t0 : xSt × Int32, q = t0 → t0 = (S', v')) {H : Heap} {locs : List Loc} (hG : xG D cy xmb a S s H locs) {ls : Array Slot} (hl : lv_has ls 3 [(0, .ref (a 0))]) : W p l e ({ frames := 1, cells := 0, slots := 0, locals := 21 } : Room) s m args below meth c H locs 0 0 (MQ below (xQi D cy xmb a S' v' s.heap.size) args s 0 0 (xA xmb a s.heap.size)) (F0 m 0 ls []) := by
  have hx := hM.1
  have hb := hM.2.1
  refine lv_iconst (v := (0 : Int32)) hx hb dX12_worthNow_0 (by decide) ?_
  refine lv_istore_n (lv' := [(1, .int (0 : Int32)), (0, .ref (a 0))]) hx hb dX12_worthNow_1 rfl hl (by decide) rfl (fun ls hl => ?_)
  refine lv_iconst (v := (0 : Int32)) hx hb dX12_worthNow_2 (by decide) ?_
  refine lv_istore_n (lv' := [(2, .int (0 : Int32)), (1, .int (0 : Int32)), (0, .ref (a 0))]) hx hb dX12_worthNow_3 rfl hl (by decide) rfl (fun ls hl => ?_)
  exact wl_X12_worthNow_4 hM hr hlk (fun t0 e => k0 t0 e) 5000 _ _ _ _ _ _ h hG (lv_sub hl [2, 1, 0] rfl)
set_option maxHeartbeats 4000000 in
set_option maxRecDepth 100000 in
theorem c_X12_worthNow {l : Launch} {D : va_G} {cy : Nat → ClassId} {a z : Nat → Nat} (hI : xI xmb a) {S : xSt} {S' : xSt} {v' : Int32} (hf : f_X12_worthNow S = some (S', v')) (sz : Nat) : Met l yX12_worthNow (Cond.code yX12_worthNow cX12_worthNow 3 (some .int) :: xTB) ({ frames := 1, cells := 0, slots := 0, locals := 21 } : Room) (va_Pc [.ref (a 0)] (xPre D cy xmb a z S sz)) (xQi D cy xmb a S' v' sz) 0 0 (xA xmb a sz) := by
  refine Met.ofW (cc := cX12_worthNow) (maxL := 3) (ret := (some .int)) (by decide) rfl ?_
  intro p e s m args below meth c s₁ B hml hv
  obtain ⟨rfl, hsz, hP, hK, hE⟩ := hv
  subst hsz
  have hl := lv_entry ([.ref (a 0)]) (n := 3) (Nat.le_of_ble_eq_true rfl)
  rw [lg_entry_eq]
  generalize (lg_sl ([.ref (a 0)]) ++ List.replicate (3 - (lg_sl ([.ref (a 0)])).length) Slot.unset).toArray = ls at hl ⊢
  have hl : lv_has ls 3 [(0, .ref (a 0))] := hl
  exact w_X12_worthNow_0 ⟨B.exec, B.bytes, hml, findClass_of_methodNamed B.named, fun w hw => atoms_spec (ws := Cond.code yX12_worthNow cX12_worthNow 3 (some .int) :: xTB) B.pre w (List.mem_cons_of_mem _ hw), hK, hI, hE⟩ B.returns B.notSynchronized hf (fun t0 e => e.symm) ⟨hP, va_S.rf⟩ (lv_sub hl [0] rfl)
set_option maxHeartbeats 4000000 in
set_option maxRecDepth 100000 in
theorem w_X12_worth_0 (hM : xM p c cX12_worth m s args RX12 1 D cy xmb a z) (hr : meth.sig.returnType = (some .int)) (hlk : meth.locks = false) {S' : xSt} {v' : Int32} {S : xSt} {q : (xSt × Int32)} (h : f_X12_worth_0 S = some q) (k0 : ∀ t0 : xSt × Int32, q = t0 → t0 = (S', v')) {H : Heap} {locs : List Loc} (hG : xG D cy xmb a S s H locs) {ls : Array Slot} (hl : lv_has ls 1 [(0, .ref (a 0))]) : W p l e ({ frames := 2, cells := 0, slots := 0, locals := 43 } : Room) s m args below meth c H locs 0 0 (MQ below (xQi D cy xmb a S' v' s.heap.size) args s 0 0 (xA xmb a s.heap.size)) (F0 m 0 ls []) := by
  have hx := hM.1
  have hb := hM.2.1
  refine lv_aload_n hx hb dX12_worth_0 rfl (lv_at hl 0 rfl) ?_
  refine x_cVv (As := []) (rest := []) hM hG xml_X12_273 xwi_X12_layNow xws_X12_layNow xmt_0 (by decide) rfl h (fun S' v e => c_X12_layNow hM.2.2.2.2.2.2.1 e _) ⟨Nat.le_of_ble_eq_true rfl, Nat.le_of_ble_eq_true rfl⟩ rfl hl.1 rfl (Nat.le_of_ble_eq_true rfl) dX12_worth_1 (fun S_1 v_2 H locs h hG => ?_)
  refine lv_aload_n hx hb dX12_worth_4 rfl (lv_at hl 0 rfl) ?_
  refine x_cVi (As := []) (rest := []) hM hG xml_X12_359 xwi_X12_worthNow xws_X12_worthNow xmt_0 (by decide) rfl h (fun S' v e => c_X12_worthNow hM.2.2.2.2.2.2.1 e _) ⟨Nat.le_of_ble_eq_true rfl, Nat.le_of_ble_eq_true rfl⟩ rfl hl.1 rfl (Nat.le_of_ble_eq_true rfl) dX12_worth_5 (fun S_3 v_4 H locs h hG => ?_)
  exact x_ri hM hG hr hlk rfl (k0 _ (Option.some.inj h).symm) dX12_worth_8
set_option maxHeartbeats 4000000 in
set_option maxRecDepth 100000 in
theorem c_X12_worth {l : Launch} {D : va_G} {cy : Nat → ClassId} {a z : Nat → Nat} (hI : xI xmb a) {S : xSt} {S' : xSt} {v' : Int32} (hf : f_X12_worth S = some (S', v')) (sz : Nat) : Met l yX12_worth (Cond.code yX12_worth cX12_worth 1 (some .int) :: xTB) ({ frames := 2, cells := 0, slots := 0, locals := 43 } : Room) (va_Pc [.ref (a 0)] (xPre D cy xmb a z S sz)) (xQi D cy xmb a S' v' sz) 0 0 (xA xmb a sz) := by
  refine Met.ofW (cc := cX12_worth) (maxL := 1) (ret := (some .int)) (by decide) rfl ?_
  intro p e s m args below meth c s₁ B hml hv
  obtain ⟨rfl, hsz, hP, hK, hE⟩ := hv
  subst hsz
  have hl := lv_entry ([.ref (a 0)]) (n := 1) (Nat.le_of_ble_eq_true rfl)
  rw [lg_entry_eq]
  generalize (lg_sl ([.ref (a 0)]) ++ List.replicate (1 - (lg_sl ([.ref (a 0)])).length) Slot.unset).toArray = ls at hl ⊢
  have hl : lv_has ls 1 [(0, .ref (a 0))] := hl
  exact w_X12_worth_0 ⟨B.exec, B.bytes, hml, findClass_of_methodNamed B.named, fun w hw => atoms_spec (ws := Cond.code yX12_worth cX12_worth 1 (some .int) :: xTB) B.pre w (List.mem_cons_of_mem _ hw), hK, hI, hE⟩ B.returns B.notSynchronized hf (fun t0 e => e.symm) ⟨hP, va_S.rf⟩ (lv_sub hl [0] rfl)
set_option maxHeartbeats 4000000 in
set_option maxRecDepth 100000 in
theorem w_X12_sell_85 {x1 : Int32} {x2 : Int32} {x3 : Int32} {x4 : Int32} {x5 : Int32} {x6 : Int32} (hM : xM p c cX12_sell m s args RX12 8 D cy xmb a z) (hr : meth.sig.returnType = (some .int)) (hlk : meth.locks = false) {S' : xSt} {v' : Int32} {S : xSt} {q : ((xSt × Int32 × Int32 × Int32) ⊕ (xSt × Int32))} (h : f_X12_sell_85 x1 x2 x3 x4 x5 x6 S = some q) (k0 : ∀ t0 : xSt × Int32, q = (.inr t0) → t0 = (S', v')) (k1 : ∀ (S : xSt) (x4 : Int32) (x5 : Int32) (x6 : Int32), q = (.inl (S, x4, x5, x6)) → ∀ (H : Heap) (locs : List Loc) (ls : Array Slot), xG D cy xmb a S s H locs → lv_has ls 8 [(0, .ref (a 0)), (1, .int x1), (2, .int x2), (3, .int x3), (4, .int x4), (5, .int x5), (6, .int x6)] → W p l e ({ frames := 7, cells := 0, slots := 0, locals := 157 } : Room) s m args below meth c H locs 0 0 (MQ below (xQi D cy xmb a S' v' s.heap.size) args s 0 0 (xA xmb a s.heap.size)) (F0 m 46 ls [])) {H : Heap} {locs : List Loc} (hG : xG D cy xmb a S s H locs) {ls : Array Slot} (hl : lv_has ls 8 [(0, .ref (a 0)), (1, .int x1), (2, .int x2), (3, .int x3), (4, .int x4), (5, .int x5), (6, .int x6)]) : W p l e ({ frames := 7, cells := 0, slots := 0, locals := 157 } : Room) s m args below meth c H locs 0 0 (MQ below (xQi D cy xmb a S' v' s.heap.size) args s 0 0 (xA xmb a s.heap.size)) (F0 m 85 ls []) := by
  have hx := hM.1
  have hb := hM.2.1
  refine x_iinc hM (fun v => [(6, .int v), (0, .ref (a 0)), (1, .int x1), (2, .int x2), (3, .int x3), (4, .int x4), (5, .int x5)]) h dX12_sell_85 hl (k := 6) rfl (by decide) (by decide) (fun _ => rfl) (fun v_1 ls h hl => ?_)
  refine lv_goto (tgt := 46) hx hb dX12_sell_88 (by decide) ?_
  exact k1 _ _ _ _ (Option.some.inj h).symm _ _ _ hG (lv_sub hl [1, 2, 3, 4, 5, 6, 0] rfl)
set_option maxHeartbeats 4000000 in
set_option maxRecDepth 100000 in
theorem w_X12_sell_91 {x3 : Int32} {x4 : Int32} {x5 : Int32} (hM : xM p c cX12_sell m s args RX12 8 D cy xmb a z) (hr : meth.sig.returnType = (some .int)) (hlk : meth.locks = false) {S' : xSt} {v' : Int32} {S : xSt} {q : (xSt × Int32)} (h : f_X12_sell_91 x3 x4 x5 S = some q) (k0 : ∀ t0 : xSt × Int32, q = t0 → t0 = (S', v')) {H : Heap} {locs : List Loc} (hG : xG D cy xmb a S s H locs) {ls : Array Slot} (hl : lv_has ls 8 [(3, .int x3), (4, .int x4), (5, .int x5)]) : W p l e ({ frames := 7, cells := 0, slots := 0, locals := 157 } : Room) s m args below meth c H locs 0 0 (MQ below (xQi D cy xmb a S' v' s.heap.size) args s 0 0 (xA xmb a s.heap.size)) (F0 m 91 ls []) := by
  have hx := hM.1
  have hb := hM.2.1
  refine lv_iload_n hx hb dX12_sell_91 rfl (lv_at hl 0 rfl) ?_
  refine x_if_ne (tgt := 100) hM h dX12_sell_92 (by decide) (fun c_1 h => ?_) (fun c_1 h => ?_)
  · refine lv_iload hx hb dX12_sell_100 (lv_at hl 2 rfl) ?_
    exact x_ri hM hG hr hlk rfl (k0 _ (Option.some.inj h).symm) dX12_sell_102
  · refine lv_iload hx hb dX12_sell_95 (lv_at hl 1 rfl) ?_
    refine lv_goto (tgt := 102) hx hb dX12_sell_97 (by decide) ?_
    exact x_ri hM hG hr hlk rfl (k0 _ (Option.some.inj h).symm) dX12_sell_102
set_option maxHeartbeats 4000000 in
set_option maxRecDepth 100000 in
theorem w_X12_sell_46 {x1 : Int32} {x2 : Int32} {x3 : Int32} {x4 : Int32} {x5 : Int32} {x6 : Int32} (hM : xM p c cX12_sell m s args RX12 8 D cy xmb a z) (hr : meth.sig.returnType = (some .int)) (hlk : meth.locks = false) {S' : xSt} {v' : Int32} {S : xSt} {q : ((xSt × Int32 × Int32 × Int32) ⊕ (xSt × Int32))} (h : f_X12_sell_46 x1 x2 x3 S x4 x5 x6 = some q) (k0 : ∀ t0 : xSt × Int32, q = (.inr t0) → t0 = (S', v')) (k1 : ∀ (S : xSt) (x4 : Int32) (x5 : Int32) (x6 : Int32), q = (.inl (S, x4, x5, x6)) → ∀ (H : Heap) (locs : List Loc) (ls : Array Slot), xG D cy xmb a S s H locs → lv_has ls 8 [(0, .ref (a 0)), (1, .int x1), (2, .int x2), (3, .int x3), (4, .int x4), (5, .int x5), (6, .int x6)] → W p l e ({ frames := 7, cells := 0, slots := 0, locals := 157 } : Room) s m args below meth c H locs 0 0 (MQ below (xQi D cy xmb a S' v' s.heap.size) args s 0 0 (xA xmb a s.heap.size)) (F0 m 46 ls [])) {H : Heap} {locs : List Loc} (hG : xG D cy xmb a S s H locs) {ls : Array Slot} (hl : lv_has ls 8 [(0, .ref (a 0)), (1, .int x1), (2, .int x2), (3, .int x3), (4, .int x4), (5, .int x5), (6, .int x6)]) : W p l e ({ frames := 7, cells := 0, slots := 0, locals := 157 } : Room) s m args below meth c H locs 0 0 (MQ below (xQi D cy xmb a S' v' s.heap.size) args s 0 0 (xA xmb a s.heap.size)) (F0 m 46 ls []) := by
  have hx := hM.1
  have hb := hM.2.1
  refine lv_iload hx hb dX12_sell_46 (lv_at hl 6 rfl) ?_
  refine lv_iload_n hx hb dX12_sell_48 rfl (lv_at hl 1 rfl) ?_
  refine x_icmp_gt (tgt := 91) hM h dX12_sell_49 (by decide) (fun c_1 h => ?_) (fun c_1 h => ?_)
  · obtain ⟨q1, h, e1⟩ := xmr_at h
    exact w_X12_sell_91 hM hr hlk h (fun t0 e => k0 t0 (by rw [e1, e])) hG (lv_sub hl [3, 4, 5] rfl)
  · refine lv_aload_n hx hb dX12_sell_52 rfl (lv_at hl 0 rfl) ?_
    refine x_cVv (As := []) (rest := []) hM hG xml_X12_282 xwi_X12_goDay xws_X12_goDay xmt_0 (by decide) rfl h (fun S' v e => c_X12_goDay hM.2.2.2.2.2.2.1 e _) ⟨Nat.le_of_ble_eq_true rfl, Nat.le_of_ble_eq_true rfl⟩ rfl hl.1 rfl (Nat.le_of_ble_eq_true rfl) dX12_sell_53 (fun S_2 v_3 H locs h hG => ?_)
    refine lv_aload_n hx hb dX12_sell_56 rfl (lv_at hl 0 rfl) ?_
    refine x_cVi (As := []) (rest := []) hM hG xml_X12_359 xwi_X12_worthNow xws_X12_worthNow xmt_0 (by decide) rfl h (fun S' v e => c_X12_worthNow hM.2.2.2.2.2.2.1 e _) ⟨Nat.le_of_ble_eq_true rfl, Nat.le_of_ble_eq_true rfl⟩ rfl hl.1 rfl (Nat.le_of_ble_eq_true rfl) dX12_sell_57 (fun S_4 v_5 H locs h hG => ?_)
    refine lv_iload_n hx hb dX12_sell_60 rfl (lv_at hl 2 rfl) ?_
    refine lv_iload hx hb dX12_sell_61 (lv_at hl 6 rfl) ?_
    refine x_imul hM h dX12_sell_63 (fun v_6 h => ?_)
    refine x_isub hM h dX12_sell_64 (fun v_7 h => ?_)
    refine lv_istore (lv' := [(7, .int v_7), (0, .ref (a 0)), (1, .int x1), (2, .int x2), (3, .int x3), (4, .int x4), (5, .int x5), (6, .int x6)]) hx hb dX12_sell_65 hl (by decide) rfl (fun ls hl => ?_)
    refine lv_iload hx hb dX12_sell_67 (lv_at hl 0 rfl) ?_
    refine lv_iload hx hb dX12_sell_69 (lv_at hl 6 rfl) ?_
    refine x_icmp_gt (tgt := 77) hM h dX12_sell_71 (by decide) (fun c_8 h => ?_) (fun c_8 h => ?_)
    · refine lv_iload hx hb dX12_sell_77 (lv_at hl 7 rfl) ?_
      refine lv_istore (lv' := [(4, .int x6), (7, .int v_7), (0, .ref (a 0)), (1, .int x1), (2, .int x2), (3, .int x3), (5, .int x5), (6, .int x6)]) hx hb dX12_sell_79 hl (by decide) rfl (fun ls hl => ?_)
      refine lv_iload hx hb dX12_sell_81 (lv_at hl 1 rfl) ?_
      refine lv_istore (lv' := [(5, .int v_7), (4, .int x6), (7, .int v_7), (0, .ref (a 0)), (1, .int x1), (2, .int x2), (3, .int x3), (6, .int x6)]) hx hb dX12_sell_83 hl (by decide) rfl (fun ls hl => ?_)
      exact w_X12_sell_85 hM hr hlk h (fun t0 e => k0 t0 e) (fun S x4 x5 x6 e => k1 S x4 x5 x6 e) hG (lv_sub hl [3, 4, 5, 6, 1, 0, 7] rfl)
    · refine lv_goto (tgt := 85) hx hb dX12_sell_74 (by decide) ?_
      exact w_X12_sell_85 hM hr hlk h (fun t0 e => k0 t0 e) (fun S x4 x5 x6 e => k1 S x4 x5 x6 e) hG (lv_sub hl [1, 2, 3, 4, 5, 6, 7] rfl)
theorem wl_X12_sell_46 {x1 : Int32} {x2 : Int32} {x3 : Int32} (hM : xM p c cX12_sell m s args RX12 8 D cy xmb a z) (hr : meth.sig.returnType = (some .int)) (hlk : meth.locks = false) {S' : xSt} {v' : Int32} {q : (xSt × Int32)} (k0 : ∀ t0 : xSt × Int32, q = t0 → t0 = (S', v')) (n : Nat) : ∀ (S : xSt) (x4 : Int32) (x5 : Int32) (x6 : Int32) (H : Heap) (locs : List Loc) (ls : Array Slot), xlp (fun q : (xSt × Int32 × Int32 × Int32) => f_X12_sell_46 x1 x2 x3 q.1 q.2.1 q.2.2.1 q.2.2.2) n (S, x4, x5, x6) = some q → xG D cy xmb a S s H locs → lv_has ls 8 [(0, .ref (a 0)), (1, .int x1), (2, .int x2), (3, .int x3), (4, .int x4), (5, .int x5), (6, .int x6)] → W p l e ({ frames := 7, cells := 0, slots := 0, locals := 157 } : Room) s m args below meth c H locs 0 0 (MQ below (xQi D cy xmb a S' v' s.heap.size) args s 0 0 (xA xmb a s.heap.size)) (F0 m 46 ls []) := by
  induction n with
  | zero => intro S x4 x5 x6 H locs ls h; exact (xlp_0 h).elim
  | succ n ih =>
    intro S x4 x5 x6 H locs ls h hG hl
    obtain ⟨q1, hq, hc, he⟩ := xlp_at h
    exact w_X12_sell_46 hM hr hlk (q := q1) hq (fun t0 e => k0 t0 (he _ e).symm) (fun S x4 x5 x6 e H locs ls hG hl => ih S x4 x5 x6 H locs ls (hc _ e) hG hl) hG hl
set_option maxHeartbeats 4000000 in
set_option maxRecDepth 100000 in
theorem w_X12_sell_0 {x1 : Int32} {x2 : Int32} {x3 : Int32} (hM : xM p c cX12_sell m s args RX12 8 D cy xmb a z) (hr : meth.sig.returnType = (some .int)) (hlk : meth.locks = false) {S' : xSt} {v' : Int32} {S : xSt} {q : (xSt × Int32)} (h : f_X12_sell_0 x1 x2 x3 S = some q) (k0 : ∀ t0 : xSt × Int32, q = t0 → t0 = (S', v')) {H : Heap} {locs : List Loc} (hG : xG D cy xmb a S s H locs) {ls : Array Slot} (hl : lv_has ls 8 [(0, .ref (a 0)), (1, .int x1), (2, .int x2), (3, .int x3)]) : W p l e ({ frames := 7, cells := 0, slots := 0, locals := 157 } : Room) s m args below meth c H locs 0 0 (MQ below (xQi D cy xmb a S' v' s.heap.size) args s 0 0 (xA xmb a s.heap.size)) (F0 m 0 ls []) := by
  have hx := hM.1
  have hb := hM.2.1
  refine lv_iload_n hx hb dX12_sell_0 rfl (lv_at hl 1 rfl) ?_
  refine x_cSi (As := [.int x1]) (rest := []) hM hG xml_X12_288 xwt_X12_areDays h (fun S' v e => c_X12_areDays hM.2.2.2.2.2.2.1 e _) ⟨Nat.le_of_ble_eq_true rfl, Nat.le_of_ble_eq_true rfl⟩ rfl hl.1 rfl (Nat.le_of_ble_eq_true rfl) dX12_sell_1 (fun S_1 v_2 H locs h hG => ?_)
  refine x_if_eq (tgt := 26) hM h dX12_sell_4 (by decide) (fun c_3 h => ?_) (fun c_3 h => ?_)
  · refine lv_ldcw (v := (-2000000000 : Int32)) hx hb hM.2.2.2.1 (hM.2.2.2.2.1 _ xcn_X12_272) dX12_sell_26 ?_
    exact x_ri hM hG hr hlk rfl (k0 _ (Option.some.inj h).symm) dX12_sell_29
  · refine lv_iload_n hx hb dX12_sell_7 rfl (lv_at hl 2 rfl) ?_
    refine lv_iconst (v := (0 : Int32)) hx hb dX12_sell_8 (by decide) ?_
    refine lv_bipush (v := (99 : Int32)) hx hb dX12_sell_9 (by decide) ?_
    refine x_cSi (As := [.int x2, .int (0 : Int32), .int (99 : Int32)]) (rest := []) hM hG xml_X12_142 xwt_X12_in h (fun S' v e => c_X12_in hM.2.2.2.2.2.2.1 e _) ⟨Nat.le_of_ble_eq_true rfl, Nat.le_of_ble_eq_true rfl⟩ rfl hl.1 rfl (Nat.le_of_ble_eq_true rfl) dX12_sell_11 (fun S_4 v_5 H locs h hG => ?_)
    refine x_if_eq (tgt := 26) hM h dX12_sell_14 (by decide) (fun c_6 h => ?_) (fun c_6 h => ?_)
    · refine lv_ldcw (v := (-2000000000 : Int32)) hx hb hM.2.2.2.1 (hM.2.2.2.2.1 _ xcn_X12_272) dX12_sell_26 ?_
      exact x_ri hM hG hr hlk rfl (k0 _ (Option.some.inj h).symm) dX12_sell_29
    · refine lv_iload_n hx hb dX12_sell_17 rfl (lv_at hl 3 rfl) ?_
      refine lv_iconst (v := (0 : Int32)) hx hb dX12_sell_18 (by decide) ?_
      refine lv_iconst (v := (1 : Int32)) hx hb dX12_sell_19 (by decide) ?_
      refine x_cSi (As := [.int x3, .int (0 : Int32), .int (1 : Int32)]) (rest := []) hM hG xml_X12_142 xwt_X12_in h (fun S' v e => c_X12_in hM.2.2.2.2.2.2.1 e _) ⟨Nat.le_of_ble_eq_true rfl, Nat.le_of_ble_eq_true rfl⟩ rfl hl.1 rfl (Nat.le_of_ble_eq_true rfl) dX12_sell_20 (fun S_7 v_8 H locs h hG => ?_)
      refine x_if_ne (tgt := 30) hM h dX12_sell_23 (by decide) (fun c_9 h => ?_) (fun c_9 h => ?_)
      · refine lv_aload_n hx hb dX12_sell_30 rfl (lv_at hl 0 rfl) ?_
        refine x_cVv (As := []) (rest := []) hM hG xml_X12_273 xwi_X12_layNow xws_X12_layNow xmt_0 (by decide) rfl h (fun S' v e => c_X12_layNow hM.2.2.2.2.2.2.1 e _) ⟨Nat.le_of_ble_eq_true rfl, Nat.le_of_ble_eq_true rfl⟩ rfl hl.1 rfl (Nat.le_of_ble_eq_true rfl) dX12_sell_31 (fun S_10 v_11 H locs h hG => ?_)
        refine lv_iconst (v := (0 : Int32)) hx hb dX12_sell_34 (by decide) ?_
        refine lv_istore (lv' := [(4, .int (0 : Int32)), (0, .ref (a 0)), (1, .int x1), (2, .int x2), (3, .int x3)]) hx hb dX12_sell_35 hl (by decide) rfl (fun ls hl => ?_)
        refine lv_aload_n hx hb dX12_sell_37 rfl (lv_at hl 1 rfl) ?_
        refine x_cVi (As := []) (rest := []) hM hG xml_X12_359 xwi_X12_worthNow xws_X12_worthNow xmt_0 (by decide) rfl h (fun S' v e => c_X12_worthNow hM.2.2.2.2.2.2.1 e _) ⟨Nat.le_of_ble_eq_true rfl, Nat.le_of_ble_eq_true rfl⟩ rfl hl.1 rfl (Nat.le_of_ble_eq_true rfl) dX12_sell_38 (fun S_12 v_13 H locs h hG => ?_)
        refine lv_istore (lv' := [(5, .int v_13), (4, .int (0 : Int32)), (0, .ref (a 0)), (1, .int x1), (2, .int x2), (3, .int x3)]) hx hb dX12_sell_41 hl (by decide) rfl (fun ls hl => ?_)
        refine lv_iconst (v := (1 : Int32)) hx hb dX12_sell_43 (by decide) ?_
        refine lv_istore (lv' := [(6, .int (1 : Int32)), (5, .int v_13), (4, .int (0 : Int32)), (0, .ref (a 0)), (1, .int x1), (2, .int x2), (3, .int x3)]) hx hb dX12_sell_44 hl (by decide) rfl (fun ls hl => ?_)
        exact wl_X12_sell_46 hM hr hlk (fun t0 e => k0 t0 e) 5000 _ _ _ _ _ _ _ h hG (lv_sub hl [3, 4, 5, 6, 2, 1, 0] rfl)
      · refine lv_ldcw (v := (-2000000000 : Int32)) hx hb hM.2.2.2.1 (hM.2.2.2.2.1 _ xcn_X12_272) dX12_sell_26 ?_
        exact x_ri hM hG hr hlk rfl (k0 _ (Option.some.inj h).symm) dX12_sell_29
set_option maxHeartbeats 4000000 in
set_option maxRecDepth 100000 in
theorem c_X12_sell {l : Launch} {D : va_G} {cy : Nat → ClassId} {a z : Nat → Nat} (hI : xI xmb a) {S : xSt} {x1 : Int32} {x2 : Int32} {x3 : Int32} {S' : xSt} {v' : Int32} (hf : f_X12_sell S x1 x2 x3 = some (S', v')) (sz : Nat) : Met l yX12_sell (Cond.code yX12_sell cX12_sell 8 (some .int) :: xTB) ({ frames := 7, cells := 0, slots := 0, locals := 157 } : Room) (va_Pc [.ref (a 0), .int x1, .int x2, .int x3] (xPre D cy xmb a z S sz)) (xQi D cy xmb a S' v' sz) 0 0 (xA xmb a sz) := by
  refine Met.ofW (cc := cX12_sell) (maxL := 8) (ret := (some .int)) (by decide) rfl ?_
  intro p e s m args below meth c s₁ B hml hv
  obtain ⟨rfl, hsz, hP, hK, hE⟩ := hv
  subst hsz
  have hl := lv_entry ([.ref (a 0), .int x1, .int x2, .int x3]) (n := 8) (Nat.le_of_ble_eq_true rfl)
  rw [lg_entry_eq]
  generalize (lg_sl ([.ref (a 0), .int x1, .int x2, .int x3]) ++ List.replicate (8 - (lg_sl ([.ref (a 0), .int x1, .int x2, .int x3])).length) Slot.unset).toArray = ls at hl ⊢
  have hl : lv_has ls 8 [(0, .ref (a 0)), (1, .int x1), (2, .int x2), (3, .int x3)] := hl
  exact w_X12_sell_0 ⟨B.exec, B.bytes, hml, findClass_of_methodNamed B.named, fun w hw => atoms_spec (ws := Cond.code yX12_sell cX12_sell 8 (some .int) :: xTB) B.pre w (List.mem_cons_of_mem _ hw), hK, hI, hE⟩ B.returns B.notSynchronized hf (fun t0 e => e.symm) ⟨hP, va_S.rf⟩ (lv_sub hl [0, 1, 2, 3] rfl)
set_option maxHeartbeats 4000000 in
set_option maxRecDepth 100000 in
theorem w_X12_goneOf_40 {x1 : Int32} {x2 : Int32} {x3 : Int32} (hM : xM p c cX12_goneOf m s args RX12 4 D cy xmb a z) (hr : meth.sig.returnType = (some .int)) (hlk : meth.locks = false) {S' : xSt} {v' : Int32} {S : xSt} {q : ((xSt × Int32 × Int32) ⊕ (xSt × Int32))} (h : f_X12_goneOf_40 x1 x2 x3 S = some q) (k0 : ∀ t0 : xSt × Int32, q = (.inr t0) → t0 = (S', v')) (k1 : ∀ (S : xSt) (x2 : Int32) (x3 : Int32), q = (.inl (S, x2, x3)) → ∀ (H : Heap) (locs : List Loc) (ls : Array Slot), xG D cy xmb a S s H locs → lv_has ls 4 [(0, .ref (a 0)), (1, .int x1), (2, .int x2), (3, .int x3)] → W p l e ({ frames := 2, cells := 0, slots := 0, locals := 43 } : Room) s m args below meth c H locs 0 0 (MQ below (xQi D cy xmb a S' v' s.heap.size) args s 0 0 (xA xmb a s.heap.size)) (F0 m 4 ls [])) {H : Heap} {locs : List Loc} (hG : xG D cy xmb a S s H locs) {ls : Array Slot} (hl : lv_has ls 4 [(0, .ref (a 0)), (1, .int x1), (2, .int x2), (3, .int x3)]) : W p l e ({ frames := 2, cells := 0, slots := 0, locals := 43 } : Room) s m args below meth c H locs 0 0 (MQ below (xQi D cy xmb a S' v' s.heap.size) args s 0 0 (xA xmb a s.heap.size)) (F0 m 40 ls []) := by
  have hx := hM.1
  have hb := hM.2.1
  refine x_iinc hM (fun v => [(3, .int v), (0, .ref (a 0)), (1, .int x1), (2, .int x2)]) h dX12_goneOf_40 hl (k := 3) rfl (by decide) (by decide) (fun _ => rfl) (fun v_1 ls h hl => ?_)
  refine lv_goto (tgt := 4) hx hb dX12_goneOf_43 (by decide) ?_
  exact k1 _ _ _ (Option.some.inj h).symm _ _ _ hG (lv_sub hl [1, 2, 3, 0] rfl)
set_option maxHeartbeats 4000000 in
set_option maxRecDepth 100000 in
theorem w_X12_goneOf_4 {x1 : Int32} {x2 : Int32} {x3 : Int32} (hM : xM p c cX12_goneOf m s args RX12 4 D cy xmb a z) (hr : meth.sig.returnType = (some .int)) (hlk : meth.locks = false) {S' : xSt} {v' : Int32} {S : xSt} {q : ((xSt × Int32 × Int32) ⊕ (xSt × Int32))} (h : f_X12_goneOf_4 x1 S x2 x3 = some q) (k0 : ∀ t0 : xSt × Int32, q = (.inr t0) → t0 = (S', v')) (k1 : ∀ (S : xSt) (x2 : Int32) (x3 : Int32), q = (.inl (S, x2, x3)) → ∀ (H : Heap) (locs : List Loc) (ls : Array Slot), xG D cy xmb a S s H locs → lv_has ls 4 [(0, .ref (a 0)), (1, .int x1), (2, .int x2), (3, .int x3)] → W p l e ({ frames := 2, cells := 0, slots := 0, locals := 43 } : Room) s m args below meth c H locs 0 0 (MQ below (xQi D cy xmb a S' v' s.heap.size) args s 0 0 (xA xmb a s.heap.size)) (F0 m 4 ls [])) {H : Heap} {locs : List Loc} (hG : xG D cy xmb a S s H locs) {ls : Array Slot} (hl : lv_has ls 4 [(0, .ref (a 0)), (1, .int x1), (2, .int x2), (3, .int x3)]) : W p l e ({ frames := 2, cells := 0, slots := 0, locals := 43 } : Room) s m args below meth c H locs 0 0 (MQ below (xQi D cy xmb a S' v' s.heap.size) args s 0 0 (xA xmb a s.heap.size)) (F0 m 4 ls []) := by
  have hx := hM.1
  have hb := hM.2.1
  refine lv_iload_n hx hb dX12_goneOf_4 rfl (lv_at hl 3 rfl) ?_
  refine lv_bipush (v := (30 : Int32)) hx hb dX12_goneOf_5 (by decide) ?_
  refine x_icmp_ge (tgt := 46) hM h dX12_goneOf_7 (by decide) (fun c_1 h => ?_) (fun c_1 h => ?_)
  · refine lv_iload_n hx hb dX12_goneOf_46 rfl (lv_at hl 2 rfl) ?_
    exact x_ri hM hG hr hlk rfl (k0 _ (Option.some.inj h).symm) dX12_goneOf_47
  · refine lv_aload_n hx hb dX12_goneOf_10 rfl (lv_at hl 0 rfl) ?_
    refine lv_iload_n hx hb dX12_goneOf_11 rfl (lv_at hl 3 rfl) ?_
    refine x_cVi (As := [.int x3]) (rest := []) hM hG xml_X12_173 xwi_X12_isCell xws_X12_isCell xmt_0 (by decide) rfl h (fun S' v e => c_X12_isCell hM.2.2.2.2.2.2.1 e _) ⟨Nat.le_of_ble_eq_true rfl, Nat.le_of_ble_eq_true rfl⟩ rfl hl.1 rfl (Nat.le_of_ble_eq_true rfl) dX12_goneOf_12 (fun S_2 v_3 H locs h hG => ?_)
    refine x_if_eq (tgt := 40) hM h dX12_goneOf_15 (by decide) (fun c_4 h => ?_) (fun c_4 h => ?_)
    · exact w_X12_goneOf_40 hM hr hlk h (fun t0 e => k0 t0 e) (fun S x2 x3 e => k1 S x2 x3 e) hG (lv_sub hl [0, 1, 2, 3] rfl)
    · refine lv_aload_n hx hb dX12_goneOf_18 rfl (lv_at hl 0 rfl) ?_
      refine x_gr (r := 6) hM hG xfl_X12_27 xmt_0 (by decide) rfl dX12_goneOf_19 ?_
      refine lv_iload_n hx hb dX12_goneOf_22 rfl (lv_at hl 3 rfl) ?_
      refine x_iald hM hG xmt_6 h dX12_goneOf_23 (fun v_5 h => ?_)
      refine lv_iload_n hx hb dX12_goneOf_24 rfl (lv_at hl 1 rfl) ?_
      refine x_icmp_ne (tgt := 40) hM h dX12_goneOf_25 (by decide) (fun c_6 h => ?_) (fun c_6 h => ?_)
      · exact w_X12_goneOf_40 hM hr hlk h (fun t0 e => k0 t0 e) (fun S x2 x3 e => k1 S x2 x3 e) hG (lv_sub hl [0, 1, 2, 3] rfl)
      · refine lv_iload_n hx hb dX12_goneOf_28 rfl (lv_at hl 2 rfl) ?_
        refine lv_bipush (v := (99 : Int32)) hx hb dX12_goneOf_29 (by decide) ?_
        refine lv_aload_n hx hb dX12_goneOf_31 rfl (lv_at hl 0 rfl) ?_
        refine x_gr (r := 4) hM hG xfl_X12_21 xmt_0 (by decide) rfl dX12_goneOf_32 ?_
        refine lv_iload_n hx hb dX12_goneOf_35 rfl (lv_at hl 3 rfl) ?_
        refine x_iald hM hG xmt_4 h dX12_goneOf_36 (fun v_7 h => ?_)
        refine x_isub hM h dX12_goneOf_37 (fun v_8 h => ?_)
        refine x_iadd hM h dX12_goneOf_38 (fun v_9 h => ?_)
        refine lv_istore_n (lv' := [(2, .int v_9), (0, .ref (a 0)), (1, .int x1), (3, .int x3)]) hx hb dX12_goneOf_39 rfl hl (by decide) rfl (fun ls hl => ?_)
        exact w_X12_goneOf_40 hM hr hlk h (fun t0 e => k0 t0 e) (fun S x2 x3 e => k1 S x2 x3 e) hG (lv_sub hl [1, 2, 0, 3] rfl)
theorem wl_X12_goneOf_4 {x1 : Int32} (hM : xM p c cX12_goneOf m s args RX12 4 D cy xmb a z) (hr : meth.sig.returnType = (some .int)) (hlk : meth.locks = false) {S' : xSt} {v' : Int32} {q : (xSt × Int32)} (k0 : ∀ t0 : xSt × Int32, q = t0 → t0 = (S', v')) (n : Nat) : ∀ (S : xSt) (x2 : Int32) (x3 : Int32) (H : Heap) (locs : List Loc) (ls : Array Slot), xlp (fun q : (xSt × Int32 × Int32) => f_X12_goneOf_4 x1 q.1 q.2.1 q.2.2) n (S, x2, x3) = some q → xG D cy xmb a S s H locs → lv_has ls 4 [(0, .ref (a 0)), (1, .int x1), (2, .int x2), (3, .int x3)] → W p l e ({ frames := 2, cells := 0, slots := 0, locals := 43 } : Room) s m args below meth c H locs 0 0 (MQ below (xQi D cy xmb a S' v' s.heap.size) args s 0 0 (xA xmb a s.heap.size)) (F0 m 4 ls []) := by
  induction n with
  | zero => intro S x2 x3 H locs ls h; exact (xlp_0 h).elim
  | succ n ih =>
    intro S x2 x3 H locs ls h hG hl
    obtain ⟨q1, hq, hc, he⟩ := xlp_at h
    exact w_X12_goneOf_4 hM hr hlk (q := q1) hq (fun t0 e => k0 t0 (he _ e).symm) (fun S x2 x3 e H locs ls hG hl => ih S x2 x3 H locs ls (hc _ e) hG hl) hG hl
set_option maxHeartbeats 4000000 in
set_option maxRecDepth 100000 in
theorem w_X12_goneOf_0 {x1 : Int32} (hM : xM p c cX12_goneOf m s args RX12 4 D cy xmb a z) (hr : meth.sig.returnType = (some .int)) (hlk : meth.locks = false) {S' : xSt} {v' : Int32} {S : xSt} {q : (xSt × Int32)} (h : f_X12_goneOf_0 x1 S = some q) (k0 : ∀ t0 : xSt × Int32, q = t0 → t0 = (S', v')) {H : Heap} {locs : List Loc} (hG : xG D cy xmb a S s H locs) {ls : Array Slot} (hl : lv_has ls 4 [(0, .ref (a 0)), (1, .int x1)]) : W p l e ({ frames := 2, cells := 0, slots := 0, locals := 43 } : Room) s m args below meth c H locs 0 0 (MQ below (xQi D cy xmb a S' v' s.heap.size) args s 0 0 (xA xmb a s.heap.size)) (F0 m 0 ls []) := by
  have hx := hM.1
  have hb := hM.2.1
  refine lv_iconst (v := (0 : Int32)) hx hb dX12_goneOf_0 (by decide) ?_
  refine lv_istore_n (lv' := [(2, .int (0 : Int32)), (0, .ref (a 0)), (1, .int x1)]) hx hb dX12_goneOf_1 rfl hl (by decide) rfl (fun ls hl => ?_)
  refine lv_iconst (v := (0 : Int32)) hx hb dX12_goneOf_2 (by decide) ?_
  refine lv_istore_n (lv' := [(3, .int (0 : Int32)), (2, .int (0 : Int32)), (0, .ref (a 0)), (1, .int x1)]) hx hb dX12_goneOf_3 rfl hl (by decide) rfl (fun ls hl => ?_)
  exact wl_X12_goneOf_4 hM hr hlk (fun t0 e => k0 t0 e) 5000 _ _ _ _ _ _ h hG (lv_sub hl [2, 3, 1, 0] rfl)
set_option maxHeartbeats 4000000 in
set_option maxRecDepth 100000 in
theorem c_X12_goneOf {l : Launch} {D : va_G} {cy : Nat → ClassId} {a z : Nat → Nat} (hI : xI xmb a) {S : xSt} {x1 : Int32} {S' : xSt} {v' : Int32} (hf : f_X12_goneOf S x1 = some (S', v')) (sz : Nat) : Met l yX12_goneOf (Cond.code yX12_goneOf cX12_goneOf 4 (some .int) :: xTB) ({ frames := 2, cells := 0, slots := 0, locals := 43 } : Room) (va_Pc [.ref (a 0), .int x1] (xPre D cy xmb a z S sz)) (xQi D cy xmb a S' v' sz) 0 0 (xA xmb a sz) := by
  refine Met.ofW (cc := cX12_goneOf) (maxL := 4) (ret := (some .int)) (by decide) rfl ?_
  intro p e s m args below meth c s₁ B hml hv
  obtain ⟨rfl, hsz, hP, hK, hE⟩ := hv
  subst hsz
  have hl := lv_entry ([.ref (a 0), .int x1]) (n := 4) (Nat.le_of_ble_eq_true rfl)
  rw [lg_entry_eq]
  generalize (lg_sl ([.ref (a 0), .int x1]) ++ List.replicate (4 - (lg_sl ([.ref (a 0), .int x1])).length) Slot.unset).toArray = ls at hl ⊢
  have hl : lv_has ls 4 [(0, .ref (a 0)), (1, .int x1)] := hl
  exact w_X12_goneOf_0 ⟨B.exec, B.bytes, hml, findClass_of_methodNamed B.named, fun w hw => atoms_spec (ws := Cond.code yX12_goneOf cX12_goneOf 4 (some .int) :: xTB) B.pre w (List.mem_cons_of_mem _ hw), hK, hI, hE⟩ B.returns B.notSynchronized hf (fun t0 e => e.symm) ⟨hP, va_S.rf⟩ (lv_sub hl [0, 1] rfl)
set_option maxHeartbeats 4000000 in
set_option maxRecDepth 100000 in
theorem w_X12_whose_33 {x1 : Int32} {x2 : Int32} {x3 : Int32} (hM : xM p c cX12_whose m s args RX12 4 D cy xmb a z) (hr : meth.sig.returnType = (some .int)) (hlk : meth.locks = false) {S' : xSt} {v' : Int32} {S : xSt} {q : ((xSt × Int32 × Int32 × Int32) ⊕ (xSt × Int32))} (h : f_X12_whose_33 x1 x2 x3 S = some q) (k0 : ∀ t0 : xSt × Int32, q = (.inr t0) → t0 = (S', v')) (k1 : ∀ (S : xSt) (x1 : Int32) (x2 : Int32) (x3 : Int32), q = (.inl (S, x1, x2, x3)) → ∀ (H : Heap) (locs : List Loc) (ls : Array Slot), xG D cy xmb a S s H locs → lv_has ls 4 [(0, .ref (a 0)), (1, .int x1), (2, .int x2), (3, .int x3)] → W p l e ({ frames := 3, cells := 0, slots := 0, locals := 66 } : Room) s m args below meth c H locs 0 0 (MQ below (xQi D cy xmb a S' v' s.heap.size) args s 0 0 (xA xmb a s.heap.size)) (F0 m 7 ls [])) {H : Heap} {locs : List Loc} (hG : xG D cy xmb a S s H locs) {ls : Array Slot} (hl : lv_has ls 4 [(0, .ref (a 0)), (1, .int x1), (2, .int x2), (3, .int x3)]) : W p l e ({ frames := 3, cells := 0, slots := 0, locals := 66 } : Room) s m args below meth c H locs 0 0 (MQ below (xQi D cy xmb a S' v' s.heap.size) args s 0 0 (xA xmb a s.heap.size)) (F0 m 33 ls []) := by
  have hx := hM.1
  have hb := hM.2.1
  refine x_iinc hM (fun v => [(3, .int v), (0, .ref (a 0)), (1, .int x1), (2, .int x2)]) h dX12_whose_33 hl (k := 3) rfl (by decide) (by decide) (fun _ => rfl) (fun v_1 ls h hl => ?_)
  refine lv_goto (tgt := 7) hx hb dX12_whose_36 (by decide) ?_
  exact k1 _ _ _ _ (Option.some.inj h).symm _ _ _ hG (lv_sub hl [1, 2, 3, 0] rfl)
set_option maxHeartbeats 4000000 in
set_option maxRecDepth 100000 in
theorem w_X12_whose_7 {x1 : Int32} {x2 : Int32} {x3 : Int32} (hM : xM p c cX12_whose m s args RX12 4 D cy xmb a z) (hr : meth.sig.returnType = (some .int)) (hlk : meth.locks = false) {S' : xSt} {v' : Int32} {S : xSt} {q : ((xSt × Int32 × Int32 × Int32) ⊕ (xSt × Int32))} (h : f_X12_whose_7 S x1 x2 x3 = some q) (k0 : ∀ t0 : xSt × Int32, q = (.inr t0) → t0 = (S', v')) (k1 : ∀ (S : xSt) (x1 : Int32) (x2 : Int32) (x3 : Int32), q = (.inl (S, x1, x2, x3)) → ∀ (H : Heap) (locs : List Loc) (ls : Array Slot), xG D cy xmb a S s H locs → lv_has ls 4 [(0, .ref (a 0)), (1, .int x1), (2, .int x2), (3, .int x3)] → W p l e ({ frames := 3, cells := 0, slots := 0, locals := 66 } : Room) s m args below meth c H locs 0 0 (MQ below (xQi D cy xmb a S' v' s.heap.size) args s 0 0 (xA xmb a s.heap.size)) (F0 m 7 ls [])) {H : Heap} {locs : List Loc} (hG : xG D cy xmb a S s H locs) {ls : Array Slot} (hl : lv_has ls 4 [(0, .ref (a 0)), (1, .int x1), (2, .int x2), (3, .int x3)]) : W p l e ({ frames := 3, cells := 0, slots := 0, locals := 66 } : Room) s m args below meth c H locs 0 0 (MQ below (xQi D cy xmb a S' v' s.heap.size) args s 0 0 (xA xmb a s.heap.size)) (F0 m 7 ls []) := by
  have hx := hM.1
  have hb := hM.2.1
  refine lv_iload_n hx hb dX12_whose_7 rfl (lv_at hl 3 rfl) ?_
  refine lv_bipush (v := (10 : Int32)) hx hb dX12_whose_8 (by decide) ?_
  refine x_icmp_ge (tgt := 39) hM h dX12_whose_10 (by decide) (fun c_1 h => ?_) (fun c_1 h => ?_)
  · refine lv_iload_n hx hb dX12_whose_39 rfl (lv_at hl 1 rfl) ?_
    exact x_ri hM hG hr hlk rfl (k0 _ (Option.some.inj h).symm) dX12_whose_40
  · refine lv_aload_n hx hb dX12_whose_13 rfl (lv_at hl 0 rfl) ?_
    refine lv_iload_n hx hb dX12_whose_14 rfl (lv_at hl 3 rfl) ?_
    refine x_cVi (As := [.int x3]) (rest := []) hM hG xml_X12_362 xwi_X12_goneOf xws_X12_goneOf xmt_0 (by decide) rfl h (fun S' v e => c_X12_goneOf hM.2.2.2.2.2.2.1 e _) ⟨Nat.le_of_ble_eq_true rfl, Nat.le_of_ble_eq_true rfl⟩ rfl hl.1 rfl (Nat.le_of_ble_eq_true rfl) dX12_whose_15 (fun S_2 v_3 H locs h hG => ?_)
    refine lv_iload_n hx hb dX12_whose_18 rfl (lv_at hl 2 rfl) ?_
    refine x_icmp_gt (tgt := 25) hM h dX12_whose_19 (by decide) (fun c_4 h => ?_) (fun c_4 h => ?_)
    · refine lv_iload_n hx hb dX12_whose_25 rfl (lv_at hl 3 rfl) ?_
      refine lv_istore_n (lv' := [(1, .int x3), (0, .ref (a 0)), (2, .int x2), (3, .int x3)]) hx hb dX12_whose_26 rfl hl (by decide) rfl (fun ls hl => ?_)
      refine lv_aload_n hx hb dX12_whose_27 rfl (lv_at hl 1 rfl) ?_
      refine lv_iload_n hx hb dX12_whose_28 rfl (lv_at hl 3 rfl) ?_
      refine x_cVi (As := [.int x3]) (rest := []) hM hG xml_X12_362 xwi_X12_goneOf xws_X12_goneOf xmt_0 (by decide) rfl h (fun S' v e => c_X12_goneOf hM.2.2.2.2.2.2.1 e _) ⟨Nat.le_of_ble_eq_true rfl, Nat.le_of_ble_eq_true rfl⟩ rfl hl.1 rfl (Nat.le_of_ble_eq_true rfl) dX12_whose_29 (fun S_5 v_6 H locs h hG => ?_)
      refine lv_istore_n (lv' := [(2, .int v_6), (1, .int x3), (0, .ref (a 0)), (3, .int x3)]) hx hb dX12_whose_32 rfl hl (by decide) rfl (fun ls hl => ?_)
      exact w_X12_whose_33 hM hr hlk h (fun t0 e => k0 t0 e) (fun S x1 x2 x3 e => k1 S x1 x2 x3 e) hG (lv_sub hl [2, 1, 0, 3] rfl)
    · refine lv_goto (tgt := 33) hx hb dX12_whose_22 (by decide) ?_
      exact w_X12_whose_33 hM hr hlk h (fun t0 e => k0 t0 e) (fun S x1 x2 x3 e => k1 S x1 x2 x3 e) hG (lv_sub hl [0, 1, 2, 3] rfl)
theorem wl_X12_whose_7 (hM : xM p c cX12_whose m s args RX12 4 D cy xmb a z) (hr : meth.sig.returnType = (some .int)) (hlk : meth.locks = false) {S' : xSt} {v' : Int32} {q : (xSt × Int32)} (k0 : ∀ t0 : xSt × Int32, q = t0 → t0 = (S', v')) (n : Nat) : ∀ (S : xSt) (x1 : Int32) (x2 : Int32) (x3 : Int32) (H : Heap) (locs : List Loc) (ls : Array Slot), xlp (fun q : (xSt × Int32 × Int32 × Int32) => f_X12_whose_7 q.1 q.2.1 q.2.2.1 q.2.2.2) n (S, x1, x2, x3) = some q → xG D cy xmb a S s H locs → lv_has ls 4 [(0, .ref (a 0)), (1, .int x1), (2, .int x2), (3, .int x3)] → W p l e ({ frames := 3, cells := 0, slots := 0, locals := 66 } : Room) s m args below meth c H locs 0 0 (MQ below (xQi D cy xmb a S' v' s.heap.size) args s 0 0 (xA xmb a s.heap.size)) (F0 m 7 ls []) := by
  induction n with
  | zero => intro S x1 x2 x3 H locs ls h; exact (xlp_0 h).elim
  | succ n ih =>
    intro S x1 x2 x3 H locs ls h hG hl
    obtain ⟨q1, hq, hc, he⟩ := xlp_at h
    exact w_X12_whose_7 hM hr hlk (q := q1) hq (fun t0 e => k0 t0 (he _ e).symm) (fun S x1 x2 x3 e H locs ls hG hl => ih S x1 x2 x3 H locs ls (hc _ e) hG hl) hG hl
set_option maxHeartbeats 4000000 in
set_option maxRecDepth 100000 in
theorem w_X12_whose_0 (hM : xM p c cX12_whose m s args RX12 4 D cy xmb a z) (hr : meth.sig.returnType = (some .int)) (hlk : meth.locks = false) {S' : xSt} {v' : Int32} {S : xSt} {q : (xSt × Int32)} (h : f_X12_whose_0 S = some q) (k0 : ∀ t0 : xSt × Int32, q = t0 → t0 = (S', v')) {H : Heap} {locs : List Loc} (hG : xG D cy xmb a S s H locs) {ls : Array Slot} (hl : lv_has ls 4 [(0, .ref (a 0))]) : W p l e ({ frames := 3, cells := 0, slots := 0, locals := 66 } : Room) s m args below meth c H locs 0 0 (MQ below (xQi D cy xmb a S' v' s.heap.size) args s 0 0 (xA xmb a s.heap.size)) (F0 m 0 ls []) := by
  have hx := hM.1
  have hb := hM.2.1
  refine lv_bipush (v := (-2 : Int32)) hx hb dX12_whose_0 (by decide) ?_
  refine lv_istore_n (lv' := [(1, .int (-2 : Int32)), (0, .ref (a 0))]) hx hb dX12_whose_2 rfl hl (by decide) rfl (fun ls hl => ?_)
  refine lv_iconst (v := (0 : Int32)) hx hb dX12_whose_3 (by decide) ?_
  refine lv_istore_n (lv' := [(2, .int (0 : Int32)), (1, .int (-2 : Int32)), (0, .ref (a 0))]) hx hb dX12_whose_4 rfl hl (by decide) rfl (fun ls hl => ?_)
  refine lv_iconst (v := (0 : Int32)) hx hb dX12_whose_5 (by decide) ?_
  refine lv_istore_n (lv' := [(3, .int (0 : Int32)), (2, .int (0 : Int32)), (1, .int (-2 : Int32)), (0, .ref (a 0))]) hx hb dX12_whose_6 rfl hl (by decide) rfl (fun ls hl => ?_)
  exact wl_X12_whose_7 hM hr hlk (fun t0 e => k0 t0 e) 5000 _ _ _ _ _ _ _ h hG (lv_sub hl [3, 2, 1, 0] rfl)
set_option maxHeartbeats 4000000 in
set_option maxRecDepth 100000 in
theorem c_X12_whose {l : Launch} {D : va_G} {cy : Nat → ClassId} {a z : Nat → Nat} (hI : xI xmb a) {S : xSt} {S' : xSt} {v' : Int32} (hf : f_X12_whose S = some (S', v')) (sz : Nat) : Met l yX12_whose (Cond.code yX12_whose cX12_whose 4 (some .int) :: xTB) ({ frames := 3, cells := 0, slots := 0, locals := 66 } : Room) (va_Pc [.ref (a 0)] (xPre D cy xmb a z S sz)) (xQi D cy xmb a S' v' sz) 0 0 (xA xmb a sz) := by
  refine Met.ofW (cc := cX12_whose) (maxL := 4) (ret := (some .int)) (by decide) rfl ?_
  intro p e s m args below meth c s₁ B hml hv
  obtain ⟨rfl, hsz, hP, hK, hE⟩ := hv
  subst hsz
  have hl := lv_entry ([.ref (a 0)]) (n := 4) (Nat.le_of_ble_eq_true rfl)
  rw [lg_entry_eq]
  generalize (lg_sl ([.ref (a 0)]) ++ List.replicate (4 - (lg_sl ([.ref (a 0)])).length) Slot.unset).toArray = ls at hl ⊢
  have hl : lv_has ls 4 [(0, .ref (a 0))] := hl
  exact w_X12_whose_0 ⟨B.exec, B.bytes, hml, findClass_of_methodNamed B.named, fun w hw => atoms_spec (ws := Cond.code yX12_whose cX12_whose 4 (some .int) :: xTB) B.pre w (List.mem_cons_of_mem _ hw), hK, hI, hE⟩ B.returns B.notSynchronized hf (fun t0 e => e.symm) ⟨hP, va_S.rf⟩ (lv_sub hl [0] rfl)
set_option maxHeartbeats 4000000 in
set_option maxRecDepth 100000 in
theorem w_X12_wrongDay_50 {x1 : Int32} {x2 : Int32} {x3 : Int32} (hM : xM p c cX12_wrongDay m s args RX12 5 D cy xmb a z) (hr : meth.sig.returnType = (some .int)) (hlk : meth.locks = false) {S' : xSt} {v' : Int32} {S : xSt} {q : ((xSt × Int32) ⊕ (xSt × Int32))} (h : f_X12_wrongDay_50 x1 x2 x3 S = some q) (k0 : ∀ t0 : xSt × Int32, q = (.inr t0) → t0 = (S', v')) (k1 : ∀ (S : xSt) (x3 : Int32), q = (.inl (S, x3)) → ∀ (H : Heap) (locs : List Loc) (ls : Array Slot), xG D cy xmb a S s H locs → lv_has ls 5 [(0, .ref (a 0)), (1, .int x1), (2, .int x2), (3, .int x3)] → W p l e ({ frames := 7, cells := 0, slots := 0, locals := 157 } : Room) s m args below meth c H locs 0 0 (MQ below (xQi D cy xmb a S' v' s.heap.size) args s 0 0 (xA xmb a s.heap.size)) (F0 m 6 ls [])) {H : Heap} {locs : List Loc} (hG : xG D cy xmb a S s H locs) {ls : Array Slot} (hl : lv_has ls 5 [(0, .ref (a 0)), (1, .int x1), (2, .int x2), (3, .int x3)]) : W p l e ({ frames := 7, cells := 0, slots := 0, locals := 157 } : Room) s m args below meth c H locs 0 0 (MQ below (xQi D cy xmb a S' v' s.heap.size) args s 0 0 (xA xmb a s.heap.size)) (F0 m 50 ls []) := by
  have hx := hM.1
  have hb := hM.2.1
  refine lv_aload_n hx hb dX12_wrongDay_50 rfl (lv_at hl 0 rfl) ?_
  refine x_cVv (As := []) (rest := []) hM hG xml_X12_282 xwi_X12_goDay xws_X12_goDay xmt_0 (by decide) rfl h (fun S' v e => c_X12_goDay hM.2.2.2.2.2.2.1 e _) ⟨Nat.le_of_ble_eq_true rfl, Nat.le_of_ble_eq_true rfl⟩ rfl hl.1 rfl (Nat.le_of_ble_eq_true rfl) dX12_wrongDay_51 (fun S_1 v_2 H locs h hG => ?_)
  refine x_iinc hM (fun v => [(3, .int v), (0, .ref (a 0)), (1, .int x1), (2, .int x2)]) h dX12_wrongDay_54 hl (k := 3) rfl (by decide) (by decide) (fun _ => rfl) (fun v_3 ls h hl => ?_)
  refine lv_goto (tgt := 6) hx hb dX12_wrongDay_57 (by decide) ?_
  exact k1 _ _ (Option.some.inj h).symm _ _ _ hG (lv_sub hl [1, 2, 3, 0] rfl)
set_option maxHeartbeats 4000000 in
set_option maxRecDepth 100000 in
theorem w_X12_wrongDay_6 {x1 : Int32} {x2 : Int32} {x3 : Int32} (hM : xM p c cX12_wrongDay m s args RX12 5 D cy xmb a z) (hr : meth.sig.returnType = (some .int)) (hlk : meth.locks = false) {S' : xSt} {v' : Int32} {S : xSt} {q : ((xSt × Int32) ⊕ (xSt × Int32))} (h : f_X12_wrongDay_6 x1 x2 S x3 = some q) (k0 : ∀ t0 : xSt × Int32, q = (.inr t0) → t0 = (S', v')) (k1 : ∀ (S : xSt) (x3 : Int32), q = (.inl (S, x3)) → ∀ (H : Heap) (locs : List Loc) (ls : Array Slot), xG D cy xmb a S s H locs → lv_has ls 5 [(0, .ref (a 0)), (1, .int x1), (2, .int x2), (3, .int x3)] → W p l e ({ frames := 7, cells := 0, slots := 0, locals := 157 } : Room) s m args below meth c H locs 0 0 (MQ below (xQi D cy xmb a S' v' s.heap.size) args s 0 0 (xA xmb a s.heap.size)) (F0 m 6 ls [])) {H : Heap} {locs : List Loc} (hG : xG D cy xmb a S s H locs) {ls : Array Slot} (hl : lv_has ls 5 [(0, .ref (a 0)), (1, .int x1), (2, .int x2), (3, .int x3)]) : W p l e ({ frames := 7, cells := 0, slots := 0, locals := 157 } : Room) s m args below meth c H locs 0 0 (MQ below (xQi D cy xmb a S' v' s.heap.size) args s 0 0 (xA xmb a s.heap.size)) (F0 m 6 ls []) := by
  have hx := hM.1
  have hb := hM.2.1
  refine lv_iload_n hx hb dX12_wrongDay_6 rfl (lv_at hl 3 rfl) ?_
  refine lv_bipush (v := (41 : Int32)) hx hb dX12_wrongDay_7 (by decide) ?_
  refine x_icmp_ge (tgt := 60) hM h dX12_wrongDay_9 (by decide) (fun c_1 h => ?_) (fun c_1 h => ?_)
  · refine lv_bipush (v := (-2 : Int32)) hx hb dX12_wrongDay_60 (by decide) ?_
    exact x_ri hM hG hr hlk rfl (k0 _ (Option.some.inj h).symm) dX12_wrongDay_62
  · refine lv_iload_n hx hb dX12_wrongDay_12 rfl (lv_at hl 3 rfl) ?_
    refine lv_aload_n hx hb dX12_wrongDay_13 rfl (lv_at hl 0 rfl) ?_
    refine x_gr (r := 38) hM hG xfl_X12_129 xmt_0 (by decide) rfl dX12_wrongDay_14 ?_
    refine lv_iload_n hx hb dX12_wrongDay_17 rfl (lv_at hl 1 rfl) ?_
    refine x_iald hM hG xmt_38 h dX12_wrongDay_18 (fun v_2 h => ?_)
    refine x_icmp_ge (tgt := 60) hM h dX12_wrongDay_19 (by decide) (fun c_3 h => ?_) (fun c_3 h => ?_)
    · refine lv_bipush (v := (-2 : Int32)) hx hb dX12_wrongDay_60 (by decide) ?_
      exact x_ri hM hG hr hlk rfl (k0 _ (Option.some.inj h).symm) dX12_wrongDay_62
    · refine lv_aload_n hx hb dX12_wrongDay_22 rfl (lv_at hl 0 rfl) ?_
      refine lv_iload_n hx hb dX12_wrongDay_23 rfl (lv_at hl 1 rfl) ?_
      refine lv_iload_n hx hb dX12_wrongDay_24 rfl (lv_at hl 3 rfl) ?_
      refine x_cVi (As := [.int x1, .int x3]) (rest := []) hM hG xml_X12_350 xwi_X12_at xws_X12_at xmt_0 (by decide) rfl h (fun S' v e => c_X12_at hM.2.2.2.2.2.2.1 e _) ⟨Nat.le_of_ble_eq_true rfl, Nat.le_of_ble_eq_true rfl⟩ rfl hl.1 rfl (Nat.le_of_ble_eq_true rfl) dX12_wrongDay_25 (fun S_4 v_5 H locs h hG => ?_)
      refine lv_istore (lv' := [(4, .int v_5), (0, .ref (a 0)), (1, .int x1), (2, .int x2), (3, .int x3)]) hx hb dX12_wrongDay_28 hl (by decide) rfl (fun ls hl => ?_)
      refine lv_iload hx hb dX12_wrongDay_30 (lv_at hl 0 rfl) ?_
      refine lv_bipush (v := (100 : Int32)) hx hb dX12_wrongDay_32 (by decide) ?_
      refine x_icmp_eq (tgt := 50) hM h dX12_wrongDay_34 (by decide) (fun c_6 h => ?_) (fun c_6 h => ?_)
      · exact w_X12_wrongDay_50 hM hr hlk h (fun t0 e => k0 t0 e) (fun S x3 e => k1 S x3 e) hG (lv_sub hl [1, 2, 3, 4] rfl)
      · refine lv_iload hx hb dX12_wrongDay_37 (lv_at hl 0 rfl) ?_
        refine lv_aload_n hx hb dX12_wrongDay_39 rfl (lv_at hl 1 rfl) ?_
        refine x_gr (r := 24) hM hG xfl_X12_83 xmt_0 (by decide) rfl dX12_wrongDay_40 ?_
        refine lv_iload_n hx hb dX12_wrongDay_43 rfl (lv_at hl 3 rfl) ?_
        refine x_iald hM hG xmt_24 h dX12_wrongDay_44 (fun v_7 h => ?_)
        refine x_icmp_eq (tgt := 50) hM h dX12_wrongDay_45 (by decide) (fun c_8 h => ?_) (fun c_8 h => ?_)
        · exact w_X12_wrongDay_50 hM hr hlk h (fun t0 e => k0 t0 e) (fun S x3 e => k1 S x3 e) hG (lv_sub hl [1, 2, 3, 4] rfl)
        · refine lv_iload_n hx hb dX12_wrongDay_48 rfl (lv_at hl 4 rfl) ?_
          exact x_ri hM hG hr hlk rfl (k0 _ (Option.some.inj h).symm) dX12_wrongDay_49
theorem wl_X12_wrongDay_6 {x1 : Int32} {x2 : Int32} (hM : xM p c cX12_wrongDay m s args RX12 5 D cy xmb a z) (hr : meth.sig.returnType = (some .int)) (hlk : meth.locks = false) {S' : xSt} {v' : Int32} {q : (xSt × Int32)} (k0 : ∀ t0 : xSt × Int32, q = t0 → t0 = (S', v')) (n : Nat) : ∀ (S : xSt) (x3 : Int32) (H : Heap) (locs : List Loc) (ls : Array Slot), xlp (fun q : (xSt × Int32) => f_X12_wrongDay_6 x1 x2 q.1 q.2) n (S, x3) = some q → xG D cy xmb a S s H locs → lv_has ls 5 [(0, .ref (a 0)), (1, .int x1), (2, .int x2), (3, .int x3)] → W p l e ({ frames := 7, cells := 0, slots := 0, locals := 157 } : Room) s m args below meth c H locs 0 0 (MQ below (xQi D cy xmb a S' v' s.heap.size) args s 0 0 (xA xmb a s.heap.size)) (F0 m 6 ls []) := by
  induction n with
  | zero => intro S x3 H locs ls h; exact (xlp_0 h).elim
  | succ n ih =>
    intro S x3 H locs ls h hG hl
    obtain ⟨q1, hq, hc, he⟩ := xlp_at h
    exact w_X12_wrongDay_6 hM hr hlk (q := q1) hq (fun t0 e => k0 t0 (he _ e).symm) (fun S x3 e H locs ls hG hl => ih S x3 H locs ls (hc _ e) hG hl) hG hl
set_option maxHeartbeats 4000000 in
set_option maxRecDepth 100000 in
theorem w_X12_wrongDay_0 {x1 : Int32} {x2 : Int32} (hM : xM p c cX12_wrongDay m s args RX12 5 D cy xmb a z) (hr : meth.sig.returnType = (some .int)) (hlk : meth.locks = false) {S' : xSt} {v' : Int32} {S : xSt} {q : (xSt × Int32)} (h : f_X12_wrongDay_0 x1 x2 S = some q) (k0 : ∀ t0 : xSt × Int32, q = t0 → t0 = (S', v')) {H : Heap} {locs : List Loc} (hG : xG D cy xmb a S s H locs) {ls : Array Slot} (hl : lv_has ls 5 [(0, .ref (a 0)), (1, .int x1), (2, .int x2)]) : W p l e ({ frames := 7, cells := 0, slots := 0, locals := 157 } : Room) s m args below meth c H locs 0 0 (MQ below (xQi D cy xmb a S' v' s.heap.size) args s 0 0 (xA xmb a s.heap.size)) (F0 m 0 ls []) := by
  have hx := hM.1
  have hb := hM.2.1
  refine lv_aload_n hx hb dX12_wrongDay_0 rfl (lv_at hl 0 rfl) ?_
  refine x_cVv (As := []) (rest := []) hM hG xml_X12_273 xwi_X12_layNow xws_X12_layNow xmt_0 (by decide) rfl h (fun S' v e => c_X12_layNow hM.2.2.2.2.2.2.1 e _) ⟨Nat.le_of_ble_eq_true rfl, Nat.le_of_ble_eq_true rfl⟩ rfl hl.1 rfl (Nat.le_of_ble_eq_true rfl) dX12_wrongDay_1 (fun S_1 v_2 H locs h hG => ?_)
  refine lv_iconst (v := (0 : Int32)) hx hb dX12_wrongDay_4 (by decide) ?_
  refine lv_istore_n (lv' := [(3, .int (0 : Int32)), (0, .ref (a 0)), (1, .int x1), (2, .int x2)]) hx hb dX12_wrongDay_5 rfl hl (by decide) rfl (fun ls hl => ?_)
  exact wl_X12_wrongDay_6 hM hr hlk (fun t0 e => k0 t0 e) 5000 _ _ _ _ _ h hG (lv_sub hl [1, 2, 3, 0] rfl)
set_option maxHeartbeats 4000000 in
set_option maxRecDepth 100000 in
theorem c_X12_wrongDay {l : Launch} {D : va_G} {cy : Nat → ClassId} {a z : Nat → Nat} (hI : xI xmb a) {S : xSt} {x1 : Int32} {x2 : Int32} {S' : xSt} {v' : Int32} (hf : f_X12_wrongDay S x1 x2 = some (S', v')) (sz : Nat) : Met l yX12_wrongDay (Cond.code yX12_wrongDay cX12_wrongDay 5 (some .int) :: xTB) ({ frames := 7, cells := 0, slots := 0, locals := 157 } : Room) (va_Pc [.ref (a 0), .int x1, .int x2] (xPre D cy xmb a z S sz)) (xQi D cy xmb a S' v' sz) 0 0 (xA xmb a sz) := by
  refine Met.ofW (cc := cX12_wrongDay) (maxL := 5) (ret := (some .int)) (by decide) rfl ?_
  intro p e s m args below meth c s₁ B hml hv
  obtain ⟨rfl, hsz, hP, hK, hE⟩ := hv
  subst hsz
  have hl := lv_entry ([.ref (a 0), .int x1, .int x2]) (n := 5) (Nat.le_of_ble_eq_true rfl)
  rw [lg_entry_eq]
  generalize (lg_sl ([.ref (a 0), .int x1, .int x2]) ++ List.replicate (5 - (lg_sl ([.ref (a 0), .int x1, .int x2])).length) Slot.unset).toArray = ls at hl ⊢
  have hl : lv_has ls 5 [(0, .ref (a 0)), (1, .int x1), (2, .int x2)] := hl
  exact w_X12_wrongDay_0 ⟨B.exec, B.bytes, hml, findClass_of_methodNamed B.named, fun w hw => atoms_spec (ws := Cond.code yX12_wrongDay cX12_wrongDay 5 (some .int) :: xTB) B.pre w (List.mem_cons_of_mem _ hw), hK, hI, hE⟩ B.returns B.notSynchronized hf (fun t0 e => e.symm) ⟨hP, va_S.rf⟩ (lv_sub hl [0, 1, 2] rfl)
set_option maxHeartbeats 4000000 in
set_option maxRecDepth 100000 in
theorem w_X12_judge_0 {x1 : Int32} {x2 : Int32} (hM : xM p c cX12_judge m s args RX12 3 D cy xmb a z) (hr : meth.sig.returnType = (some .int)) (hlk : meth.locks = false) {S' : xSt} {v' : Int32} {S : xSt} {q : (xSt × Int32)} (h : f_X12_judge_0 x1 x2 S = some q) (k0 : ∀ t0 : xSt × Int32, q = t0 → t0 = (S', v')) {H : Heap} {locs : List Loc} (hG : xG D cy xmb a S s H locs) {ls : Array Slot} (hl : lv_has ls 3 [(0, .ref (a 0)), (1, .int x1), (2, .int x2)]) : W p l e ({ frames := 8, cells := 0, slots := 0, locals := 181 } : Room) s m args below meth c H locs 0 0 (MQ below (xQi D cy xmb a S' v' s.heap.size) args s 0 0 (xA xmb a s.heap.size)) (F0 m 0 ls []) := by
  have hx := hM.1
  have hb := hM.2.1
  refine lv_iload_n hx hb dX12_judge_0 rfl (lv_at hl 1 rfl) ?_
  refine x_cSi (As := [.int x1]) (rest := []) hM hG xml_X12_154 xwt_X12_isShelf h (fun S' v e => c_X12_isShelf hM.2.2.2.2.2.2.1 e _) ⟨Nat.le_of_ble_eq_true rfl, Nat.le_of_ble_eq_true rfl⟩ rfl hl.1 rfl (Nat.le_of_ble_eq_true rfl) dX12_judge_1 (fun S_1 v_2 H locs h hG => ?_)
  refine x_if_eq (tgt := 15) hM h dX12_judge_4 (by decide) (fun c_3 h => ?_) (fun c_3 h => ?_)
  · refine lv_iconst (v := (-1 : Int32)) hx hb dX12_judge_15 (by decide) ?_
    exact x_ri hM hG hr hlk rfl (k0 _ (Option.some.inj h).symm) dX12_judge_16
  · refine lv_aload_n hx hb dX12_judge_7 rfl (lv_at hl 0 rfl) ?_
    refine lv_iload_n hx hb dX12_judge_8 rfl (lv_at hl 2 rfl) ?_
    refine x_cVi (As := [.int x2]) (rest := []) hM hG xml_X12_173 xwi_X12_isCell xws_X12_isCell xmt_0 (by decide) rfl h (fun S' v e => c_X12_isCell hM.2.2.2.2.2.2.1 e _) ⟨Nat.le_of_ble_eq_true rfl, Nat.le_of_ble_eq_true rfl⟩ rfl hl.1 rfl (Nat.le_of_ble_eq_true rfl) dX12_judge_9 (fun S_4 v_5 H locs h hG => ?_)
    refine x_if_ne (tgt := 17) hM h dX12_judge_12 (by decide) (fun c_6 h => ?_) (fun c_6 h => ?_)
    · refine lv_aload_n hx hb dX12_judge_17 rfl (lv_at hl 0 rfl) ?_
      refine lv_iload_n hx hb dX12_judge_18 rfl (lv_at hl 1 rfl) ?_
      refine x_cVi (As := [.int x1]) (rest := []) hM hG xml_X12_356 xwi_X12_rowFault xws_X12_rowFault xmt_0 (by decide) rfl h (fun S' v e => c_X12_rowFault hM.2.2.2.2.2.2.1 e _) ⟨Nat.le_of_ble_eq_true rfl, Nat.le_of_ble_eq_true rfl⟩ rfl hl.1 rfl (Nat.le_of_ble_eq_true rfl) dX12_judge_19 (fun S_7 v_8 H locs h hG => ?_)
      refine x_if_ge (tgt := 33) hM h dX12_judge_22 (by decide) (fun c_9 h => ?_) (fun c_9 h => ?_)
      · refine lv_aload_n hx hb dX12_judge_33 rfl (lv_at hl 0 rfl) ?_
        refine lv_iload_n hx hb dX12_judge_34 rfl (lv_at hl 1 rfl) ?_
        refine lv_iload_n hx hb dX12_judge_35 rfl (lv_at hl 2 rfl) ?_
        refine x_cVi (As := [.int x1, .int x2]) (rest := []) hM hG xml_X12_365 xwi_X12_wrongDay xws_X12_wrongDay xmt_0 (by decide) rfl h (fun S' v e => c_X12_wrongDay hM.2.2.2.2.2.2.1 e _) ⟨Nat.le_of_ble_eq_true rfl, Nat.le_of_ble_eq_true rfl⟩ rfl hl.1 rfl (Nat.le_of_ble_eq_true rfl) dX12_judge_36 (fun S_10 v_11 H locs h hG => ?_)
        exact x_ri hM hG hr hlk rfl (k0 _ (Option.some.inj h).symm) dX12_judge_39
      · refine lv_aload_n hx hb dX12_judge_25 rfl (lv_at hl 0 rfl) ?_
        refine lv_iload_n hx hb dX12_judge_26 rfl (lv_at hl 1 rfl) ?_
        refine x_cVi (As := [.int x1]) (rest := []) hM hG xml_X12_356 xwi_X12_rowFault xws_X12_rowFault xmt_0 (by decide) rfl h (fun S' v e => c_X12_rowFault hM.2.2.2.2.2.2.1 e _) ⟨Nat.le_of_ble_eq_true rfl, Nat.le_of_ble_eq_true rfl⟩ rfl hl.1 rfl (Nat.le_of_ble_eq_true rfl) dX12_judge_27 (fun S_12 v_13 H locs h hG => ?_)
        refine lv_goto (tgt := 39) hx hb dX12_judge_30 (by decide) ?_
        exact x_ri hM hG hr hlk rfl (k0 _ (Option.some.inj h).symm) dX12_judge_39
    · refine lv_iconst (v := (-1 : Int32)) hx hb dX12_judge_15 (by decide) ?_
      exact x_ri hM hG hr hlk rfl (k0 _ (Option.some.inj h).symm) dX12_judge_16
set_option maxHeartbeats 4000000 in
set_option maxRecDepth 100000 in
theorem c_X12_judge {l : Launch} {D : va_G} {cy : Nat → ClassId} {a z : Nat → Nat} (hI : xI xmb a) {S : xSt} {x1 : Int32} {x2 : Int32} {S' : xSt} {v' : Int32} (hf : f_X12_judge S x1 x2 = some (S', v')) (sz : Nat) : Met l yX12_judge (Cond.code yX12_judge cX12_judge 3 (some .int) :: xTB) ({ frames := 8, cells := 0, slots := 0, locals := 181 } : Room) (va_Pc [.ref (a 0), .int x1, .int x2] (xPre D cy xmb a z S sz)) (xQi D cy xmb a S' v' sz) 0 0 (xA xmb a sz) := by
  refine Met.ofW (cc := cX12_judge) (maxL := 3) (ret := (some .int)) (by decide) rfl ?_
  intro p e s m args below meth c s₁ B hml hv
  obtain ⟨rfl, hsz, hP, hK, hE⟩ := hv
  subst hsz
  have hl := lv_entry ([.ref (a 0), .int x1, .int x2]) (n := 3) (Nat.le_of_ble_eq_true rfl)
  rw [lg_entry_eq]
  generalize (lg_sl ([.ref (a 0), .int x1, .int x2]) ++ List.replicate (3 - (lg_sl ([.ref (a 0), .int x1, .int x2])).length) Slot.unset).toArray = ls at hl ⊢
  have hl : lv_has ls 3 [(0, .ref (a 0)), (1, .int x1), (2, .int x2)] := hl
  exact w_X12_judge_0 ⟨B.exec, B.bytes, hml, findClass_of_methodNamed B.named, fun w hw => atoms_spec (ws := Cond.code yX12_judge cX12_judge 3 (some .int) :: xTB) B.pre w (List.mem_cons_of_mem _ hw), hK, hI, hE⟩ B.returns B.notSynchronized hf (fun t0 e => e.symm) ⟨hP, va_S.rf⟩ (lv_sub hl [0, 1, 2] rfl)
set_option maxHeartbeats 4000000 in
set_option maxRecDepth 100000 in
theorem w_X12_saltedBits_46 {x1 : Int32} {x2 : Int32} {x3 : Int32} {x4 : Int32} {x5 : Int32} {x6 : Int32} (hM : xM p c cX12_saltedBits m s args RX12 7 D cy xmb a z) (hr : meth.sig.returnType = (some .int)) (hlk : meth.locks = false) {S' : xSt} {v' : Int32} {S : xSt} {q : ((xSt × Int32 × Int32) ⊕ (xSt × Int32))} (h : f_X12_saltedBits_46 x1 x2 x3 x4 x5 x6 S = some q) (k0 : ∀ t0 : xSt × Int32, q = (.inr t0) → t0 = (S', v')) (k1 : ∀ (S : xSt) (x5 : Int32) (x6 : Int32), q = (.inl (S, x5, x6)) → ∀ (H : Heap) (locs : List Loc) (ls : Array Slot), xG D cy xmb a S s H locs → lv_has ls 7 [(0, .ref (a 0)), (1, .int x1), (2, .int x2), (3, .int x3), (4, .int x4), (5, .int x5), (6, .int x6)] → W p l e ({ frames := 8, cells := 0, slots := 0, locals := 181 } : Room) s m args below meth c H locs 0 0 (MQ below (xQi D cy xmb a S' v' s.heap.size) args s 0 0 (xA xmb a s.heap.size)) (F0 m 14 ls [])) {H : Heap} {locs : List Loc} (hG : xG D cy xmb a S s H locs) {ls : Array Slot} (hl : lv_has ls 7 [(0, .ref (a 0)), (1, .int x1), (2, .int x2), (3, .int x3), (4, .int x4), (5, .int x5), (6, .int x6)]) : W p l e ({ frames := 8, cells := 0, slots := 0, locals := 181 } : Room) s m args below meth c H locs 0 0 (MQ below (xQi D cy xmb a S' v' s.heap.size) args s 0 0 (xA xmb a s.heap.size)) (F0 m 46 ls []) := by
  have hx := hM.1
  have hb := hM.2.1
  refine x_iinc hM (fun v => [(6, .int v), (0, .ref (a 0)), (1, .int x1), (2, .int x2), (3, .int x3), (4, .int x4), (5, .int x5)]) h dX12_saltedBits_46 hl (k := 6) rfl (by decide) (by decide) (fun _ => rfl) (fun v_1 ls h hl => ?_)
  refine lv_goto (tgt := 14) hx hb dX12_saltedBits_49 (by decide) ?_
  exact k1 _ _ _ (Option.some.inj h).symm _ _ _ hG (lv_sub hl [1, 2, 3, 4, 5, 6, 0] rfl)
set_option maxHeartbeats 4000000 in
set_option maxRecDepth 100000 in
theorem w_X12_saltedBits_52 {x3 : Int32} {x4 : Int32} {x5 : Int32} (hM : xM p c cX12_saltedBits m s args RX12 7 D cy xmb a z) (hr : meth.sig.returnType = (some .int)) (hlk : meth.locks = false) {S' : xSt} {v' : Int32} {S : xSt} {q : (xSt × Int32)} (h : f_X12_saltedBits_52 x3 x4 x5 S = some q) (k0 : ∀ t0 : xSt × Int32, q = t0 → t0 = (S', v')) {H : Heap} {locs : List Loc} (hG : xG D cy xmb a S s H locs) {ls : Array Slot} (hl : lv_has ls 7 [(0, .ref (a 0)), (3, .int x3), (4, .int x4), (5, .int x5)]) : W p l e ({ frames := 8, cells := 0, slots := 0, locals := 181 } : Room) s m args below meth c H locs 0 0 (MQ below (xQi D cy xmb a S' v' s.heap.size) args s 0 0 (xA xmb a s.heap.size)) (F0 m 52 ls []) := by
  have hx := hM.1
  have hb := hM.2.1
  refine lv_aload_n hx hb dX12_saltedBits_52 rfl (lv_at hl 0 rfl) ?_
  refine x_gr (r := 5) hM hG xfl_X12_24 xmt_0 (by decide) rfl dX12_saltedBits_53 ?_
  refine lv_iload_n hx hb dX12_saltedBits_56 rfl (lv_at hl 1 rfl) ?_
  refine lv_iload hx hb dX12_saltedBits_57 (lv_at hl 2 rfl) ?_
  refine x_iast hM hG xmt_5 h dX12_saltedBits_59 (fun S_1 H locs h hG => ?_)
  refine lv_iload hx hb dX12_saltedBits_60 (lv_at hl 3 rfl) ?_
  exact x_ri hM hG hr hlk rfl (k0 _ (Option.some.inj h).symm) dX12_saltedBits_62
set_option maxHeartbeats 4000000 in
set_option maxRecDepth 100000 in
theorem w_X12_saltedBits_14 {x1 : Int32} {x2 : Int32} {x3 : Int32} {x4 : Int32} {x5 : Int32} {x6 : Int32} (hM : xM p c cX12_saltedBits m s args RX12 7 D cy xmb a z) (hr : meth.sig.returnType = (some .int)) (hlk : meth.locks = false) {S' : xSt} {v' : Int32} {S : xSt} {q : ((xSt × Int32 × Int32) ⊕ (xSt × Int32))} (h : f_X12_saltedBits_14 x1 x2 x3 x4 S x5 x6 = some q) (k0 : ∀ t0 : xSt × Int32, q = (.inr t0) → t0 = (S', v')) (k1 : ∀ (S : xSt) (x5 : Int32) (x6 : Int32), q = (.inl (S, x5, x6)) → ∀ (H : Heap) (locs : List Loc) (ls : Array Slot), xG D cy xmb a S s H locs → lv_has ls 7 [(0, .ref (a 0)), (1, .int x1), (2, .int x2), (3, .int x3), (4, .int x4), (5, .int x5), (6, .int x6)] → W p l e ({ frames := 8, cells := 0, slots := 0, locals := 181 } : Room) s m args below meth c H locs 0 0 (MQ below (xQi D cy xmb a S' v' s.heap.size) args s 0 0 (xA xmb a s.heap.size)) (F0 m 14 ls [])) {H : Heap} {locs : List Loc} (hG : xG D cy xmb a S s H locs) {ls : Array Slot} (hl : lv_has ls 7 [(0, .ref (a 0)), (1, .int x1), (2, .int x2), (3, .int x3), (4, .int x4), (5, .int x5), (6, .int x6)]) : W p l e ({ frames := 8, cells := 0, slots := 0, locals := 181 } : Room) s m args below meth c H locs 0 0 (MQ below (xQi D cy xmb a S' v' s.heap.size) args s 0 0 (xA xmb a s.heap.size)) (F0 m 14 ls []) := by
  have hx := hM.1
  have hb := hM.2.1
  refine lv_iload hx hb dX12_saltedBits_14 (lv_at hl 6 rfl) ?_
  refine lv_iconst (v := (2 : Int32)) hx hb dX12_saltedBits_16 (by decide) ?_
  refine x_icmp_ge (tgt := 52) hM h dX12_saltedBits_17 (by decide) (fun c_1 h => ?_) (fun c_1 h => ?_)
  · obtain ⟨q1, h, e1⟩ := xmr_at h
    exact w_X12_saltedBits_52 hM hr hlk h (fun t0 e => k0 t0 (by rw [e1, e])) hG (lv_sub hl [0, 3, 4, 5] rfl)
  · refine lv_aload_n hx hb dX12_saltedBits_20 rfl (lv_at hl 0 rfl) ?_
    refine x_gr (r := 5) hM hG xfl_X12_24 xmt_0 (by decide) rfl dX12_saltedBits_21 ?_
    refine lv_iload_n hx hb dX12_saltedBits_24 rfl (lv_at hl 3 rfl) ?_
    refine lv_iload hx hb dX12_saltedBits_25 (lv_at hl 6 rfl) ?_
    refine x_iast hM hG xmt_5 h dX12_saltedBits_27 (fun S_2 H locs h hG => ?_)
    refine lv_aload_n hx hb dX12_saltedBits_28 rfl (lv_at hl 0 rfl) ?_
    refine lv_iload_n hx hb dX12_saltedBits_29 rfl (lv_at hl 1 rfl) ?_
    refine lv_iload_n hx hb dX12_saltedBits_30 rfl (lv_at hl 2 rfl) ?_
    refine x_cVi (As := [.int x1, .int x2]) (rest := []) hM hG xml_X12_365 xwi_X12_wrongDay xws_X12_wrongDay xmt_0 (by decide) rfl h (fun S' v e => c_X12_wrongDay hM.2.2.2.2.2.2.1 e _) ⟨Nat.le_of_ble_eq_true rfl, Nat.le_of_ble_eq_true rfl⟩ rfl hl.1 rfl (Nat.le_of_ble_eq_true rfl) dX12_saltedBits_31 (fun S_3 v_4 H locs h hG => ?_)
    refine x_if_ge (tgt := 46) hM h dX12_saltedBits_34 (by decide) (fun c_5 h => ?_) (fun c_5 h => ?_)
    · exact w_X12_saltedBits_46 hM hr hlk h (fun t0 e => k0 t0 e) (fun S x5 x6 e => k1 S x5 x6 e) hG (lv_sub hl [0, 1, 2, 3, 4, 5, 6] rfl)
    · refine lv_iload hx hb dX12_saltedBits_37 (lv_at hl 5 rfl) ?_
      refine lv_iconst (v := (1 : Int32)) hx hb dX12_saltedBits_39 (by decide) ?_
      refine lv_iload hx hb dX12_saltedBits_40 (lv_at hl 6 rfl) ?_
      refine x_ishl hM h dX12_saltedBits_42 (fun v_6 h => ?_)
      refine x_ior hM h dX12_saltedBits_43 (fun v_7 h => ?_)
      refine lv_istore (lv' := [(5, .int v_7), (0, .ref (a 0)), (1, .int x1), (2, .int x2), (3, .int x3), (4, .int x4), (6, .int x6)]) hx hb dX12_saltedBits_44 hl (by decide) rfl (fun ls hl => ?_)
      exact w_X12_saltedBits_46 hM hr hlk h (fun t0 e => k0 t0 e) (fun S x5 x6 e => k1 S x5 x6 e) hG (lv_sub hl [1, 2, 3, 4, 5, 0, 6] rfl)
theorem wl_X12_saltedBits_14 {x1 : Int32} {x2 : Int32} {x3 : Int32} {x4 : Int32} (hM : xM p c cX12_saltedBits m s args RX12 7 D cy xmb a z) (hr : meth.sig.returnType = (some .int)) (hlk : meth.locks = false) {S' : xSt} {v' : Int32} {q : (xSt × Int32)} (k0 : ∀ t0 : xSt × Int32, q = t0 → t0 = (S', v')) (n : Nat) : ∀ (S : xSt) (x5 : Int32) (x6 : Int32) (H : Heap) (locs : List Loc) (ls : Array Slot), xlp (fun q : (xSt × Int32 × Int32) => f_X12_saltedBits_14 x1 x2 x3 x4 q.1 q.2.1 q.2.2) n (S, x5, x6) = some q → xG D cy xmb a S s H locs → lv_has ls 7 [(0, .ref (a 0)), (1, .int x1), (2, .int x2), (3, .int x3), (4, .int x4), (5, .int x5), (6, .int x6)] → W p l e ({ frames := 8, cells := 0, slots := 0, locals := 181 } : Room) s m args below meth c H locs 0 0 (MQ below (xQi D cy xmb a S' v' s.heap.size) args s 0 0 (xA xmb a s.heap.size)) (F0 m 14 ls []) := by
  induction n with
  | zero => intro S x5 x6 H locs ls h; exact (xlp_0 h).elim
  | succ n ih =>
    intro S x5 x6 H locs ls h hG hl
    obtain ⟨q1, hq, hc, he⟩ := xlp_at h
    exact w_X12_saltedBits_14 hM hr hlk (q := q1) hq (fun t0 e => k0 t0 (he _ e).symm) (fun S x5 x6 e H locs ls hG hl => ih S x5 x6 H locs ls (hc _ e) hG hl) hG hl
set_option maxHeartbeats 4000000 in
set_option maxRecDepth 100000 in
theorem w_X12_saltedBits_0 {x1 : Int32} {x2 : Int32} {x3 : Int32} (hM : xM p c cX12_saltedBits m s args RX12 7 D cy xmb a z) (hr : meth.sig.returnType = (some .int)) (hlk : meth.locks = false) {S' : xSt} {v' : Int32} {S : xSt} {q : (xSt × Int32)} (h : f_X12_saltedBits_0 x1 x2 x3 S = some q) (k0 : ∀ t0 : xSt × Int32, q = t0 → t0 = (S', v')) {H : Heap} {locs : List Loc} (hG : xG D cy xmb a S s H locs) {ls : Array Slot} (hl : lv_has ls 7 [(0, .ref (a 0)), (1, .int x1), (2, .int x2), (3, .int x3)]) : W p l e ({ frames := 8, cells := 0, slots := 0, locals := 181 } : Room) s m args below meth c H locs 0 0 (MQ below (xQi D cy xmb a S' v' s.heap.size) args s 0 0 (xA xmb a s.heap.size)) (F0 m 0 ls []) := by
  have hx := hM.1
  have hb := hM.2.1
  refine lv_aload_n hx hb dX12_saltedBits_0 rfl (lv_at hl 0 rfl) ?_
  refine x_gr (r := 5) hM hG xfl_X12_24 xmt_0 (by decide) rfl dX12_saltedBits_1 ?_
  refine lv_iload_n hx hb dX12_saltedBits_4 rfl (lv_at hl 3 rfl) ?_
  refine x_iald hM hG xmt_5 h dX12_saltedBits_5 (fun v_1 h => ?_)
  refine lv_istore (lv' := [(4, .int v_1), (0, .ref (a 0)), (1, .int x1), (2, .int x2), (3, .int x3)]) hx hb dX12_saltedBits_6 hl (by decide) rfl (fun ls hl => ?_)
  refine lv_iconst (v := (0 : Int32)) hx hb dX12_saltedBits_8 (by decide) ?_
  refine lv_istore (lv' := [(5, .int (0 : Int32)), (4, .int v_1), (0, .ref (a 0)), (1, .int x1), (2, .int x2), (3, .int x3)]) hx hb dX12_saltedBits_9 hl (by decide) rfl (fun ls hl => ?_)
  refine lv_iconst (v := (0 : Int32)) hx hb dX12_saltedBits_11 (by decide) ?_
  refine lv_istore (lv' := [(6, .int (0 : Int32)), (5, .int (0 : Int32)), (4, .int v_1), (0, .ref (a 0)), (1, .int x1), (2, .int x2), (3, .int x3)]) hx hb dX12_saltedBits_12 hl (by decide) rfl (fun ls hl => ?_)
  exact wl_X12_saltedBits_14 hM hr hlk (fun t0 e => k0 t0 e) 5000 _ _ _ _ _ _ h hG (lv_sub hl [3, 4, 5, 6, 2, 1, 0] rfl)
set_option maxHeartbeats 4000000 in
set_option maxRecDepth 100000 in
theorem c_X12_saltedBits {l : Launch} {D : va_G} {cy : Nat → ClassId} {a z : Nat → Nat} (hI : xI xmb a) {S : xSt} {x1 : Int32} {x2 : Int32} {x3 : Int32} {S' : xSt} {v' : Int32} (hf : f_X12_saltedBits S x1 x2 x3 = some (S', v')) (sz : Nat) : Met l yX12_saltedBits (Cond.code yX12_saltedBits cX12_saltedBits 7 (some .int) :: xTB) ({ frames := 8, cells := 0, slots := 0, locals := 181 } : Room) (va_Pc [.ref (a 0), .int x1, .int x2, .int x3] (xPre D cy xmb a z S sz)) (xQi D cy xmb a S' v' sz) 0 0 (xA xmb a sz) := by
  refine Met.ofW (cc := cX12_saltedBits) (maxL := 7) (ret := (some .int)) (by decide) rfl ?_
  intro p e s m args below meth c s₁ B hml hv
  obtain ⟨rfl, hsz, hP, hK, hE⟩ := hv
  subst hsz
  have hl := lv_entry ([.ref (a 0), .int x1, .int x2, .int x3]) (n := 7) (Nat.le_of_ble_eq_true rfl)
  rw [lg_entry_eq]
  generalize (lg_sl ([.ref (a 0), .int x1, .int x2, .int x3]) ++ List.replicate (7 - (lg_sl ([.ref (a 0), .int x1, .int x2, .int x3])).length) Slot.unset).toArray = ls at hl ⊢
  have hl : lv_has ls 7 [(0, .ref (a 0)), (1, .int x1), (2, .int x2), (3, .int x3)] := hl
  exact w_X12_saltedBits_0 ⟨B.exec, B.bytes, hml, findClass_of_methodNamed B.named, fun w hw => atoms_spec (ws := Cond.code yX12_saltedBits cX12_saltedBits 7 (some .int) :: xTB) B.pre w (List.mem_cons_of_mem _ hw), hK, hI, hE⟩ B.returns B.notSynchronized hf (fun t0 e => e.symm) ⟨hP, va_S.rf⟩ (lv_sub hl [0, 1, 2, 3] rfl)
set_option maxHeartbeats 4000000 in
set_option maxRecDepth 100000 in
theorem w_X12_book_143 {x1 : Int32} {x2 : Int32} {x3 : Int32} {x4 : Int32} {x5 : Int32} {x6 : Int32} {x7 : Int32} {x8 : Int32} (hM : xM p c cX12_book m s args RX12 9 D cy xmb a z) (hr : meth.sig.returnType = (some .int)) (hlk : meth.locks = false) {S' : xSt} {v' : Int32} {S : xSt} {q : ((xSt × Int32 × Int32 × Int32) ⊕ (xSt × Int32))} (h : f_X12_book_143 x1 x2 x3 x4 x5 x6 x7 x8 S = some q) (k0 : ∀ t0 : xSt × Int32, q = (.inr t0) → t0 = (S', v')) (k1 : ∀ (S : xSt) (x6 : Int32) (x7 : Int32) (x8 : Int32), q = (.inl (S, x6, x7, x8)) → ∀ (H : Heap) (locs : List Loc) (ls : Array Slot), xG D cy xmb a S s H locs → lv_has ls 9 [(0, .ref (a 0)), (1, .int x1), (2, .int x2), (3, .int x3), (4, .int x4), (5, .int x5), (6, .int x6), (7, .int x7), (8, .int x8)] → W p l e ({ frames := 9, cells := 0, slots := 0, locals := 207 } : Room) s m args below meth c H locs 0 0 (MQ below (xQi D cy xmb a S' v' s.heap.size) args s 0 0 (xA xmb a s.heap.size)) (F0 m 100 ls [])) {H : Heap} {locs : List Loc} (hG : xG D cy xmb a S s H locs) {ls : Array Slot} (hl : lv_has ls 9 [(0, .ref (a 0)), (1, .int x1), (2, .int x2), (3, .int x3), (4, .int x4), (5, .int x5), (6, .int x6), (7, .int x7), (8, .int x8)]) : W p l e ({ frames := 9, cells := 0, slots := 0, locals := 207 } : Room) s m args below meth c H locs 0 0 (MQ below (xQi D cy xmb a S' v' s.heap.size) args s 0 0 (xA xmb a s.heap.size)) (F0 m 143 ls []) := by
  have hx := hM.1
  have hb := hM.2.1
  refine x_iinc hM (fun v => [(8, .int v), (0, .ref (a 0)), (1, .int x1), (2, .int x2), (3, .int x3), (4, .int x4), (5, .int x5), (6, .int x6), (7, .int x7)]) h dX12_book_143 hl (k := 8) rfl (by decide) (by decide) (fun _ => rfl) (fun v_1 ls h hl => ?_)
  refine lv_goto (tgt := 100) hx hb dX12_book_146 (by decide) ?_
  exact k1 _ _ _ _ (Option.some.inj h).symm _ _ _ hG (lv_sub hl [1, 2, 3, 4, 5, 6, 7, 8, 0] rfl)
set_option maxHeartbeats 4000000 in
set_option maxRecDepth 100000 in
theorem w_X12_book_140 {x1 : Int32} {x2 : Int32} {x3 : Int32} {x4 : Int32} {x5 : Int32} {x6 : Int32} {x7 : Int32} {x8 : Int32} (hM : xM p c cX12_book m s args RX12 9 D cy xmb a z) (hr : meth.sig.returnType = (some .int)) (hlk : meth.locks = false) {S' : xSt} {v' : Int32} {S : xSt} {q : ((xSt × Int32 × Int32 × Int32) ⊕ (xSt × Int32))} (h : f_X12_book_140 x1 x2 x3 x4 x5 x6 x7 x8 S = some q) (k0 : ∀ t0 : xSt × Int32, q = (.inr t0) → t0 = (S', v')) (k1 : ∀ (S : xSt) (x6 : Int32) (x7 : Int32) (x8 : Int32), q = (.inl (S, x6, x7, x8)) → ∀ (H : Heap) (locs : List Loc) (ls : Array Slot), xG D cy xmb a S s H locs → lv_has ls 9 [(0, .ref (a 0)), (1, .int x1), (2, .int x2), (3, .int x3), (4, .int x4), (5, .int x5), (6, .int x6), (7, .int x7), (8, .int x8)] → W p l e ({ frames := 9, cells := 0, slots := 0, locals := 207 } : Room) s m args below meth c H locs 0 0 (MQ below (xQi D cy xmb a S' v' s.heap.size) args s 0 0 (xA xmb a s.heap.size)) (F0 m 100 ls [])) {H : Heap} {locs : List Loc} (hG : xG D cy xmb a S s H locs) {ls : Array Slot} (hl : lv_has ls 9 [(0, .ref (a 0)), (1, .int x1), (2, .int x2), (3, .int x3), (4, .int x4), (5, .int x5), (6, .int x6), (7, .int x7), (8, .int x8)]) : W p l e ({ frames := 9, cells := 0, slots := 0, locals := 207 } : Room) s m args below meth c H locs 0 0 (MQ below (xQi D cy xmb a S' v' s.heap.size) args s 0 0 (xA xmb a s.heap.size)) (F0 m 140 ls []) := by
  have hx := hM.1
  have hb := hM.2.1
  refine x_iinc hM (fun v => [(6, .int v), (0, .ref (a 0)), (1, .int x1), (2, .int x2), (3, .int x3), (4, .int x4), (5, .int x5), (7, .int x7), (8, .int x8)]) h dX12_book_140 hl (k := 6) rfl (by decide) (by decide) (fun _ => rfl) (fun v_1 ls h hl => ?_)
  exact w_X12_book_143 hM hr hlk h (fun t0 e => k0 t0 e) (fun S x6 x7 x8 e => k1 S x6 x7 x8 e) hG (lv_sub hl [1, 2, 3, 4, 5, 6, 0, 7, 8] rfl)
set_option maxHeartbeats 4000000 in
set_option maxRecDepth 100000 in
theorem w_X12_book_149 {x3 : Int32} {x4 : Int32} {x5 : Int32} {x6 : Int32} {x7 : Int32} (hM : xM p c cX12_book m s args RX12 9 D cy xmb a z) (hr : meth.sig.returnType = (some .int)) (hlk : meth.locks = false) {S' : xSt} {v' : Int32} {S : xSt} {q : (xSt × Int32)} (h : f_X12_book_149 x3 x4 x5 x6 x7 S = some q) (k0 : ∀ t0 : xSt × Int32, q = t0 → t0 = (S', v')) {H : Heap} {locs : List Loc} (hG : xG D cy xmb a S s H locs) {ls : Array Slot} (hl : lv_has ls 9 [(0, .ref (a 0)), (3, .int x3), (4, .int x4), (5, .int x5), (6, .int x6), (7, .int x7)]) : W p l e ({ frames := 9, cells := 0, slots := 0, locals := 207 } : Room) s m args below meth c H locs 0 0 (MQ below (xQi D cy xmb a S' v' s.heap.size) args s 0 0 (xA xmb a s.heap.size)) (F0 m 149 ls []) := by
  have hx := hM.1
  have hb := hM.2.1
  refine lv_aload_n hx hb dX12_book_149 rfl (lv_at hl 0 rfl) ?_
  refine x_gr (r := 2) hM hG xfl_X12_15 xmt_0 (by decide) rfl dX12_book_150 ?_
  refine lv_iload hx hb dX12_book_153 (lv_at hl 2 rfl) ?_
  refine lv_iload hx hb dX12_book_155 (lv_at hl 3 rfl) ?_
  refine x_iast hM hG xmt_2 h dX12_book_157 (fun S_1 H locs h hG => ?_)
  refine lv_iload_n hx hb dX12_book_158 rfl (lv_at hl 1 rfl) ?_
  refine x_if_ne (tgt := 167) hM h dX12_book_159 (by decide) (fun c_2 h => ?_) (fun c_2 h => ?_)
  · refine lv_iload hx hb dX12_book_167 (lv_at hl 5 rfl) ?_
    exact x_ri hM hG hr hlk rfl (k0 _ (Option.some.inj h).symm) dX12_book_169
  · refine lv_iload hx hb dX12_book_162 (lv_at hl 4 rfl) ?_
    refine lv_goto (tgt := 169) hx hb dX12_book_164 (by decide) ?_
    exact x_ri hM hG hr hlk rfl (k0 _ (Option.some.inj h).symm) dX12_book_169
set_option maxHeartbeats 4000000 in
set_option maxRecDepth 100000 in
theorem w_X12_book_100 {x1 : Int32} {x2 : Int32} {x3 : Int32} {x4 : Int32} {x5 : Int32} {x6 : Int32} {x7 : Int32} {x8 : Int32} (hM : xM p c cX12_book m s args RX12 9 D cy xmb a z) (hr : meth.sig.returnType = (some .int)) (hlk : meth.locks = false) {S' : xSt} {v' : Int32} {S : xSt} {q : ((xSt × Int32 × Int32 × Int32) ⊕ (xSt × Int32))} (h : f_X12_book_100 x1 x2 x3 x4 x5 S x6 x7 x8 = some q) (k0 : ∀ t0 : xSt × Int32, q = (.inr t0) → t0 = (S', v')) (k1 : ∀ (S : xSt) (x6 : Int32) (x7 : Int32) (x8 : Int32), q = (.inl (S, x6, x7, x8)) → ∀ (H : Heap) (locs : List Loc) (ls : Array Slot), xG D cy xmb a S s H locs → lv_has ls 9 [(0, .ref (a 0)), (1, .int x1), (2, .int x2), (3, .int x3), (4, .int x4), (5, .int x5), (6, .int x6), (7, .int x7), (8, .int x8)] → W p l e ({ frames := 9, cells := 0, slots := 0, locals := 207 } : Room) s m args below meth c H locs 0 0 (MQ below (xQi D cy xmb a S' v' s.heap.size) args s 0 0 (xA xmb a s.heap.size)) (F0 m 100 ls [])) {H : Heap} {locs : List Loc} (hG : xG D cy xmb a S s H locs) {ls : Array Slot} (hl : lv_has ls 9 [(0, .ref (a 0)), (1, .int x1), (2, .int x2), (3, .int x3), (4, .int x4), (5, .int x5), (6, .int x6), (7, .int x7), (8, .int x8)]) : W p l e ({ frames := 9, cells := 0, slots := 0, locals := 207 } : Room) s m args below meth c H locs 0 0 (MQ below (xQi D cy xmb a S' v' s.heap.size) args s 0 0 (xA xmb a s.heap.size)) (F0 m 100 ls []) := by
  have hx := hM.1
  have hb := hM.2.1
  refine lv_iload hx hb dX12_book_100 (lv_at hl 8 rfl) ?_
  refine lv_bipush (v := (9 : Int32)) hx hb dX12_book_102 (by decide) ?_
  refine x_icmp_gt (tgt := 149) hM h dX12_book_104 (by decide) (fun c_1 h => ?_) (fun c_1 h => ?_)
  · obtain ⟨q1, h, e1⟩ := xmr_at h
    exact w_X12_book_149 hM hr hlk h (fun t0 e => k0 t0 (by rw [e1, e])) hG (lv_sub hl [0, 3, 4, 5, 6, 7] rfl)
  · refine lv_aload_n hx hb dX12_book_107 rfl (lv_at hl 0 rfl) ?_
    refine x_gr (r := 2) hM hG xfl_X12_15 xmt_0 (by decide) rfl dX12_book_108 ?_
    refine lv_iload hx hb dX12_book_111 (lv_at hl 4 rfl) ?_
    refine lv_iload hx hb dX12_book_113 (lv_at hl 8 rfl) ?_
    refine x_iast hM hG xmt_2 h dX12_book_115 (fun S_2 H locs h hG => ?_)
    refine lv_aload_n hx hb dX12_book_116 rfl (lv_at hl 0 rfl) ?_
    refine lv_iload_n hx hb dX12_book_117 rfl (lv_at hl 1 rfl) ?_
    refine lv_iload_n hx hb dX12_book_118 rfl (lv_at hl 2 rfl) ?_
    refine lv_bipush (v := (100 : Int32)) hx hb dX12_book_119 (by decide) ?_
    refine x_idiv hM h dX12_book_121 (fun v_3 h => ?_)
    refine x_cVi (As := [.int x1, .int v_3]) (rest := []) hM hG xml_X12_365 xwi_X12_wrongDay xws_X12_wrongDay xmt_0 (by decide) rfl h (fun S' v e => c_X12_wrongDay hM.2.2.2.2.2.2.1 e _) ⟨Nat.le_of_ble_eq_true rfl, Nat.le_of_ble_eq_true rfl⟩ rfl hl.1 rfl (Nat.le_of_ble_eq_true rfl) dX12_book_122 (fun S_4 v_5 H locs h hG => ?_)
    refine x_if_lt (tgt := 131) hM h dX12_book_125 (by decide) (fun c_6 h => ?_) (fun c_6 h => ?_)
    · refine lv_iload hx hb dX12_book_131 (lv_at hl 6 rfl) ?_
      refine x_if_ne (tgt := 140) hM h dX12_book_133 (by decide) (fun c_7 h => ?_) (fun c_7 h => ?_)
      · exact w_X12_book_140 hM hr hlk h (fun t0 e => k0 t0 e) (fun S x6 x7 x8 e => k1 S x6 x7 x8 e) hG (lv_sub hl [0, 1, 2, 3, 4, 5, 6, 7, 8] rfl)
      · refine lv_iload hx hb dX12_book_136 (lv_at hl 8 rfl) ?_
        refine lv_istore (lv' := [(7, .int x8), (0, .ref (a 0)), (1, .int x1), (2, .int x2), (3, .int x3), (4, .int x4), (5, .int x5), (6, .int x6), (8, .int x8)]) hx hb dX12_book_138 hl (by decide) rfl (fun ls hl => ?_)
        exact w_X12_book_140 hM hr hlk h (fun t0 e => k0 t0 e) (fun S x6 x7 x8 e => k1 S x6 x7 x8 e) hG (lv_sub hl [1, 2, 3, 4, 5, 6, 7, 0, 8] rfl)
    · refine lv_goto (tgt := 143) hx hb dX12_book_128 (by decide) ?_
      exact w_X12_book_143 hM hr hlk h (fun t0 e => k0 t0 e) (fun S x6 x7 x8 e => k1 S x6 x7 x8 e) hG (lv_sub hl [0, 1, 2, 3, 4, 5, 6, 7, 8] rfl)
theorem wl_X12_book_100 {x1 : Int32} {x2 : Int32} {x3 : Int32} {x4 : Int32} {x5 : Int32} (hM : xM p c cX12_book m s args RX12 9 D cy xmb a z) (hr : meth.sig.returnType = (some .int)) (hlk : meth.locks = false) {S' : xSt} {v' : Int32} {q : (xSt × Int32)} (k0 : ∀ t0 : xSt × Int32, q = t0 → t0 = (S', v')) (n : Nat) : ∀ (S : xSt) (x6 : Int32) (x7 : Int32) (x8 : Int32) (H : Heap) (locs : List Loc) (ls : Array Slot), xlp (fun q : (xSt × Int32 × Int32 × Int32) => f_X12_book_100 x1 x2 x3 x4 x5 q.1 q.2.1 q.2.2.1 q.2.2.2) n (S, x6, x7, x8) = some q → xG D cy xmb a S s H locs → lv_has ls 9 [(0, .ref (a 0)), (1, .int x1), (2, .int x2), (3, .int x3), (4, .int x4), (5, .int x5), (6, .int x6), (7, .int x7), (8, .int x8)] → W p l e ({ frames := 9, cells := 0, slots := 0, locals := 207 } : Room) s m args below meth c H locs 0 0 (MQ below (xQi D cy xmb a S' v' s.heap.size) args s 0 0 (xA xmb a s.heap.size)) (F0 m 100 ls []) := by
  induction n with
  | zero => intro S x6 x7 x8 H locs ls h; exact (xlp_0 h).elim
  | succ n ih =>
    intro S x6 x7 x8 H locs ls h hG hl
    obtain ⟨q1, hq, hc, he⟩ := xlp_at h
    exact w_X12_book_100 hM hr hlk (q := q1) hq (fun t0 e => k0 t0 (he _ e).symm) (fun S x6 x7 x8 e H locs ls hG hl => ih S x6 x7 x8 H locs ls (hc _ e) hG hl) hG hl
set_option maxHeartbeats 4000000 in
set_option maxRecDepth 100000 in
theorem w_X12_book_0 {x1 : Int32} {x2 : Int32} {x3 : Int32} (hM : xM p c cX12_book m s args RX12 9 D cy xmb a z) (hr : meth.sig.returnType = (some .int)) (hlk : meth.locks = false) {S' : xSt} {v' : Int32} {S : xSt} {q : (xSt × Int32)} (h : f_X12_book_0 x1 x2 x3 S = some q) (k0 : ∀ t0 : xSt × Int32, q = t0 → t0 = (S', v')) {H : Heap} {locs : List Loc} (hG : xG D cy xmb a S s H locs) {ls : Array Slot} (hl : lv_has ls 9 [(0, .ref (a 0)), (1, .int x1), (2, .int x2), (3, .int x3)]) : W p l e ({ frames := 9, cells := 0, slots := 0, locals := 207 } : Room) s m args below meth c H locs 0 0 (MQ below (xQi D cy xmb a S' v' s.heap.size) args s 0 0 (xA xmb a s.heap.size)) (F0 m 0 ls []) := by
  have hx := hM.1
  have hb := hM.2.1
  refine lv_iload_n hx hb dX12_book_0 rfl (lv_at hl 1 rfl) ?_
  refine x_cSi (As := [.int x1]) (rest := []) hM hG xml_X12_154 xwt_X12_isShelf h (fun S' v e => c_X12_isShelf hM.2.2.2.2.2.2.1 e _) ⟨Nat.le_of_ble_eq_true rfl, Nat.le_of_ble_eq_true rfl⟩ rfl hl.1 rfl (Nat.le_of_ble_eq_true rfl) dX12_book_1 (fun S_1 v_2 H locs h hG => ?_)
  refine x_if_eq (tgt := 42) hM h dX12_book_4 (by decide) (fun c_3 h => ?_) (fun c_3 h => ?_)
  · refine lv_iconst (v := (-1 : Int32)) hx hb dX12_book_42 (by decide) ?_
    exact x_ri hM hG hr hlk rfl (k0 _ (Option.some.inj h).symm) dX12_book_43
  · refine lv_iload_n hx hb dX12_book_7 rfl (lv_at hl 2 rfl) ?_
    refine x_if_lt (tgt := 42) hM h dX12_book_8 (by decide) (fun c_4 h => ?_) (fun c_4 h => ?_)
    · refine lv_iconst (v := (-1 : Int32)) hx hb dX12_book_42 (by decide) ?_
      exact x_ri hM hG hr hlk rfl (k0 _ (Option.some.inj h).symm) dX12_book_43
    · refine lv_aload_n hx hb dX12_book_11 rfl (lv_at hl 0 rfl) ?_
      refine lv_iload_n hx hb dX12_book_12 rfl (lv_at hl 2 rfl) ?_
      refine lv_bipush (v := (100 : Int32)) hx hb dX12_book_13 (by decide) ?_
      refine x_idiv hM h dX12_book_15 (fun v_5 h => ?_)
      refine x_cVi (As := [.int v_5]) (rest := []) hM hG xml_X12_173 xwi_X12_isCell xws_X12_isCell xmt_0 (by decide) rfl h (fun S' v e => c_X12_isCell hM.2.2.2.2.2.2.1 e _) ⟨Nat.le_of_ble_eq_true rfl, Nat.le_of_ble_eq_true rfl⟩ rfl hl.1 rfl (Nat.le_of_ble_eq_true rfl) dX12_book_16 (fun S_6 v_7 H locs h hG => ?_)
      refine x_if_eq (tgt := 42) hM h dX12_book_19 (by decide) (fun c_8 h => ?_) (fun c_8 h => ?_)
      · refine lv_iconst (v := (-1 : Int32)) hx hb dX12_book_42 (by decide) ?_
        exact x_ri hM hG hr hlk rfl (k0 _ (Option.some.inj h).symm) dX12_book_43
      · refine lv_aload_n hx hb dX12_book_22 rfl (lv_at hl 0 rfl) ?_
        refine lv_iload_n hx hb dX12_book_23 rfl (lv_at hl 2 rfl) ?_
        refine lv_bipush (v := (100 : Int32)) hx hb dX12_book_24 (by decide) ?_
        refine x_irem hM h dX12_book_26 (fun v_9 h => ?_)
        refine x_cVi (As := [.int v_9]) (rest := []) hM hG xml_X12_173 xwi_X12_isCell xws_X12_isCell xmt_0 (by decide) rfl h (fun S' v e => c_X12_isCell hM.2.2.2.2.2.2.1 e _) ⟨Nat.le_of_ble_eq_true rfl, Nat.le_of_ble_eq_true rfl⟩ rfl hl.1 rfl (Nat.le_of_ble_eq_true rfl) dX12_book_27 (fun S_10 v_11 H locs h hG => ?_)
        refine x_if_eq (tgt := 42) hM h dX12_book_30 (by decide) (fun c_12 h => ?_) (fun c_12 h => ?_)
        · refine lv_iconst (v := (-1 : Int32)) hx hb dX12_book_42 (by decide) ?_
          exact x_ri hM hG hr hlk rfl (k0 _ (Option.some.inj h).symm) dX12_book_43
        · refine lv_iload_n hx hb dX12_book_33 rfl (lv_at hl 3 rfl) ?_
          refine lv_iconst (v := (0 : Int32)) hx hb dX12_book_34 (by decide) ?_
          refine lv_iconst (v := (2 : Int32)) hx hb dX12_book_35 (by decide) ?_
          refine x_cSi (As := [.int x3, .int (0 : Int32), .int (2 : Int32)]) (rest := []) hM hG xml_X12_142 xwt_X12_in h (fun S' v e => c_X12_in hM.2.2.2.2.2.2.1 e _) ⟨Nat.le_of_ble_eq_true rfl, Nat.le_of_ble_eq_true rfl⟩ rfl hl.1 rfl (Nat.le_of_ble_eq_true rfl) dX12_book_36 (fun S_13 v_14 H locs h hG => ?_)
          refine x_if_ne (tgt := 44) hM h dX12_book_39 (by decide) (fun c_15 h => ?_) (fun c_15 h => ?_)
          · refine lv_aload_n hx hb dX12_book_44 rfl (lv_at hl 0 rfl) ?_
            refine lv_iload_n hx hb dX12_book_45 rfl (lv_at hl 1 rfl) ?_
            refine x_cVi (As := [.int x1]) (rest := []) hM hG xml_X12_356 xwi_X12_rowFault xws_X12_rowFault xmt_0 (by decide) rfl h (fun S' v e => c_X12_rowFault hM.2.2.2.2.2.2.1 e _) ⟨Nat.le_of_ble_eq_true rfl, Nat.le_of_ble_eq_true rfl⟩ rfl hl.1 rfl (Nat.le_of_ble_eq_true rfl) dX12_book_46 (fun S_16 v_17 H locs h hG => ?_)
            refine x_if_ge (tgt := 58) hM h dX12_book_49 (by decide) (fun c_18 h => ?_) (fun c_18 h => ?_)
            · refine lv_iload_n hx hb dX12_book_58 rfl (lv_at hl 2 rfl) ?_
              refine lv_bipush (v := (100 : Int32)) hx hb dX12_book_59 (by decide) ?_
              refine x_irem hM h dX12_book_61 (fun v_19 h => ?_)
              refine lv_istore (lv' := [(4, .int v_19), (0, .ref (a 0)), (1, .int x1), (2, .int x2), (3, .int x3)]) hx hb dX12_book_62 hl (by decide) rfl (fun ls hl => ?_)
              refine lv_iload_n hx hb dX12_book_64 rfl (lv_at hl 4 rfl) ?_
              refine lv_iconst (v := (2 : Int32)) hx hb dX12_book_65 (by decide) ?_
              refine x_icmp_ne (tgt := 81) hM h dX12_book_66 (by decide) (fun c_20 h => ?_) (fun c_20 h => ?_)
              · refine lv_aload_n hx hb dX12_book_81 rfl (lv_at hl 1 rfl) ?_
                refine x_gr (r := 2) hM hG xfl_X12_15 xmt_0 (by decide) rfl dX12_book_82 ?_
                refine lv_iload hx hb dX12_book_85 (lv_at hl 0 rfl) ?_
                refine x_iald hM hG xmt_2 h dX12_book_87 (fun v_21 h => ?_)
                refine lv_istore (lv' := [(5, .int v_21), (4, .int v_19), (0, .ref (a 0)), (1, .int x1), (2, .int x2), (3, .int x3)]) hx hb dX12_book_88 hl (by decide) rfl (fun ls hl => ?_)
                refine lv_iconst (v := (0 : Int32)) hx hb dX12_book_90 (by decide) ?_
                refine lv_istore (lv' := [(6, .int (0 : Int32)), (5, .int v_21), (4, .int v_19), (0, .ref (a 0)), (1, .int x1), (2, .int x2), (3, .int x3)]) hx hb dX12_book_91 hl (by decide) rfl (fun ls hl => ?_)
                refine lv_bipush (v := (-2 : Int32)) hx hb dX12_book_93 (by decide) ?_
                refine lv_istore (lv' := [(7, .int (-2 : Int32)), (6, .int (0 : Int32)), (5, .int v_21), (4, .int v_19), (0, .ref (a 0)), (1, .int x1), (2, .int x2), (3, .int x3)]) hx hb dX12_book_95 hl (by decide) rfl (fun ls hl => ?_)
                refine lv_iconst (v := (0 : Int32)) hx hb dX12_book_97 (by decide) ?_
                refine lv_istore (lv' := [(8, .int (0 : Int32)), (7, .int (-2 : Int32)), (6, .int (0 : Int32)), (5, .int v_21), (4, .int v_19), (0, .ref (a 0)), (1, .int x1), (2, .int x2), (3, .int x3)]) hx hb dX12_book_98 hl (by decide) rfl (fun ls hl => ?_)
                exact wl_X12_book_100 hM hr hlk (fun t0 e => k0 t0 e) 5000 _ _ _ _ _ _ _ h hG (lv_sub hl [5, 6, 7, 8, 4, 3, 2, 1, 0] rfl)
              · refine lv_aload_n hx hb dX12_book_69 rfl (lv_at hl 1 rfl) ?_
                refine lv_iload_n hx hb dX12_book_70 rfl (lv_at hl 2 rfl) ?_
                refine lv_iload_n hx hb dX12_book_71 rfl (lv_at hl 3 rfl) ?_
                refine lv_bipush (v := (100 : Int32)) hx hb dX12_book_72 (by decide) ?_
                refine x_idiv hM h dX12_book_74 (fun v_22 h => ?_)
                refine lv_iload hx hb dX12_book_75 (lv_at hl 0 rfl) ?_
                refine x_cVi (As := [.int x1, .int v_22, .int v_19]) (rest := []) hM hG xml_X12_368 xwi_X12_saltedBits xws_X12_saltedBits xmt_0 (by decide) rfl h (fun S' v e => c_X12_saltedBits hM.2.2.2.2.2.2.1 e _) ⟨Nat.le_of_ble_eq_true rfl, Nat.le_of_ble_eq_true rfl⟩ rfl hl.1 rfl (Nat.le_of_ble_eq_true rfl) dX12_book_77 (fun S_23 v_24 H locs h hG => ?_)
                exact x_ri hM hG hr hlk rfl (k0 _ (Option.some.inj h).symm) dX12_book_80
            · refine lv_aload_n hx hb dX12_book_52 rfl (lv_at hl 0 rfl) ?_
              refine lv_iload_n hx hb dX12_book_53 rfl (lv_at hl 1 rfl) ?_
              refine x_cVi (As := [.int x1]) (rest := []) hM hG xml_X12_356 xwi_X12_rowFault xws_X12_rowFault xmt_0 (by decide) rfl h (fun S' v e => c_X12_rowFault hM.2.2.2.2.2.2.1 e _) ⟨Nat.le_of_ble_eq_true rfl, Nat.le_of_ble_eq_true rfl⟩ rfl hl.1 rfl (Nat.le_of_ble_eq_true rfl) dX12_book_54 (fun S_25 v_26 H locs h hG => ?_)
              exact x_ri hM hG hr hlk rfl (k0 _ (Option.some.inj h).symm) dX12_book_57
          · refine lv_iconst (v := (-1 : Int32)) hx hb dX12_book_42 (by decide) ?_
            exact x_ri hM hG hr hlk rfl (k0 _ (Option.some.inj h).symm) dX12_book_43
set_option maxHeartbeats 4000000 in
set_option maxRecDepth 100000 in
theorem c_X12_book {l : Launch} {D : va_G} {cy : Nat → ClassId} {a z : Nat → Nat} (hI : xI xmb a) {S : xSt} {x1 : Int32} {x2 : Int32} {x3 : Int32} {S' : xSt} {v' : Int32} (hf : f_X12_book S x1 x2 x3 = some (S', v')) (sz : Nat) : Met l yX12_book (Cond.code yX12_book cX12_book 9 (some .int) :: xTB) ({ frames := 9, cells := 0, slots := 0, locals := 207 } : Room) (va_Pc [.ref (a 0), .int x1, .int x2, .int x3] (xPre D cy xmb a z S sz)) (xQi D cy xmb a S' v' sz) 0 0 (xA xmb a sz) := by
  refine Met.ofW (cc := cX12_book) (maxL := 9) (ret := (some .int)) (by decide) rfl ?_
  intro p e s m args below meth c s₁ B hml hv
  obtain ⟨rfl, hsz, hP, hK, hE⟩ := hv
  subst hsz
  have hl := lv_entry ([.ref (a 0), .int x1, .int x2, .int x3]) (n := 9) (Nat.le_of_ble_eq_true rfl)
  rw [lg_entry_eq]
  generalize (lg_sl ([.ref (a 0), .int x1, .int x2, .int x3]) ++ List.replicate (9 - (lg_sl ([.ref (a 0), .int x1, .int x2, .int x3])).length) Slot.unset).toArray = ls at hl ⊢
  have hl : lv_has ls 9 [(0, .ref (a 0)), (1, .int x1), (2, .int x2), (3, .int x3)] := hl
  exact w_X12_book_0 ⟨B.exec, B.bytes, hml, findClass_of_methodNamed B.named, fun w hw => atoms_spec (ws := Cond.code yX12_book cX12_book 9 (some .int) :: xTB) B.pre w (List.mem_cons_of_mem _ hw), hK, hI, hE⟩ B.returns B.notSynchronized hf (fun t0 e => e.symm) ⟨hP, va_S.rf⟩ (lv_sub hl [0, 1, 2, 3] rfl)
set_option maxHeartbeats 4000000 in
set_option maxRecDepth 100000 in
theorem w_X12_wetNow_0 {x1 : Int32} (hM : xM p c cX12_wetNow m s args RX12 3 D cy xmb a z) (hr : meth.sig.returnType = none) (hlk : meth.locks = false) {S' : xSt} {v' : Unit} {S : xSt} {q : (xSt × Unit)} (h : f_X12_wetNow_0 x1 S = some q) (k0 : ∀ t0 : xSt × Unit, q = t0 → t0 = (S', v')) {H : Heap} {locs : List Loc} (hG : xG D cy xmb a S s H locs) {ls : Array Slot} (hl : lv_has ls 3 [(0, .ref (a 0)), (1, .int x1)]) : W p l e ({ frames := 0, cells := 0, slots := 0, locals := 0 } : Room) s m args below meth c H locs 0 0 (MQ below (xQv D cy xmb a S' v' s.heap.size) args s 0 0 (xA xmb a s.heap.size)) (F0 m 0 ls []) := by
  have hx := hM.1
  have hb := hM.2.1
  refine lv_aload_n hx hb dX12_wetNow_0 rfl (lv_at hl 0 rfl) ?_
  refine x_gr (r := 22) hM hG xfl_X12_77 xmt_0 (by decide) rfl dX12_wetNow_1 ?_
  refine lv_iload_n hx hb dX12_wetNow_4 rfl (lv_at hl 1 rfl) ?_
  refine x_iald hM hG xmt_22 h dX12_wetNow_5 (fun v_1 h => ?_)
  refine x_if_ne (tgt := 10) hM h dX12_wetNow_6 (by decide) (fun c_2 h => ?_) (fun c_2 h => ?_)
  · refine lv_iconst (v := (5 : Int32)) hx hb dX12_wetNow_10 (by decide) ?_
    refine lv_iload_n hx hb dX12_wetNow_11 rfl (lv_at hl 1 rfl) ?_
    refine x_imul hM h dX12_wetNow_12 (fun v_3 h => ?_)
    refine lv_aload_n hx hb dX12_wetNow_13 rfl (lv_at hl 0 rfl) ?_
    refine x_gr (r := 22) hM hG xfl_X12_77 xmt_0 (by decide) rfl dX12_wetNow_14 ?_
    refine lv_iload_n hx hb dX12_wetNow_17 rfl (lv_at hl 1 rfl) ?_
    refine x_iald hM hG xmt_22 h dX12_wetNow_18 (fun v_4 h => ?_)
    refine x_iadd hM h dX12_wetNow_19 (fun v_5 h => ?_)
    refine lv_iconst (v := (1 : Int32)) hx hb dX12_wetNow_20 (by decide) ?_
    refine x_isub hM h dX12_wetNow_21 (fun v_6 h => ?_)
    refine lv_istore_n (lv' := [(2, .int v_6), (0, .ref (a 0)), (1, .int x1)]) hx hb dX12_wetNow_22 rfl hl (by decide) rfl (fun ls hl => ?_)
    refine lv_aload_n hx hb dX12_wetNow_23 rfl (lv_at hl 1 rfl) ?_
    refine x_gr (r := 23) hM hG xfl_X12_80 xmt_0 (by decide) rfl dX12_wetNow_24 ?_
    refine lv_iload_n hx hb dX12_wetNow_27 rfl (lv_at hl 0 rfl) ?_
    refine lv_aload_n hx hb dX12_wetNow_28 rfl (lv_at hl 1 rfl) ?_
    refine x_gr (r := 23) hM hG xfl_X12_80 xmt_0 (by decide) rfl dX12_wetNow_29 ?_
    refine lv_iload_n hx hb dX12_wetNow_32 rfl (lv_at hl 0 rfl) ?_
    refine x_iald hM hG xmt_23 h dX12_wetNow_33 (fun v_7 h => ?_)
    refine lv_bipush (v := (7 : Int32)) hx hb dX12_wetNow_34 (by decide) ?_
    refine x_icmp_le (tgt := 44) hM h dX12_wetNow_36 (by decide) (fun c_8 h => ?_) (fun c_8 h => ?_)
    · refine lv_aload_n hx hb dX12_wetNow_44 rfl (lv_at hl 1 rfl) ?_
      refine x_gr (r := 23) hM hG xfl_X12_80 xmt_0 (by decide) rfl dX12_wetNow_45 ?_
      refine lv_iload_n hx hb dX12_wetNow_48 rfl (lv_at hl 0 rfl) ?_
      refine x_iald hM hG xmt_23 h dX12_wetNow_49 (fun v_9 h => ?_)
      refine lv_iconst (v := (2 : Int32)) hx hb dX12_wetNow_50 (by decide) ?_
      refine x_iadd hM h dX12_wetNow_51 (fun v_10 h => ?_)
      refine x_iast hM hG xmt_23 h dX12_wetNow_52 (fun S_11 H locs h hG => ?_)
      exact x_rv hM hG hr hlk (k0 _ (Option.some.inj h).symm) dX12_wetNow_53
    · refine lv_bipush (v := (9 : Int32)) hx hb dX12_wetNow_39 (by decide) ?_
      refine lv_goto (tgt := 52) hx hb dX12_wetNow_41 (by decide) ?_
      refine x_iast hM hG xmt_23 h dX12_wetNow_52 (fun S_12 H locs h hG => ?_)
      exact x_rv hM hG hr hlk (k0 _ (Option.some.inj h).symm) dX12_wetNow_53
  · exact x_rv hM hG hr hlk (k0 _ (Option.some.inj h).symm) dX12_wetNow_9
set_option maxHeartbeats 4000000 in
set_option maxRecDepth 100000 in
theorem c_X12_wetNow {l : Launch} {D : va_G} {cy : Nat → ClassId} {a z : Nat → Nat} (hI : xI xmb a) {S : xSt} {x1 : Int32} {S' : xSt} {v' : Unit} (hf : f_X12_wetNow S x1 = some (S', v')) (sz : Nat) : Met l yX12_wetNow (Cond.code yX12_wetNow cX12_wetNow 3 none :: xTB) ({ frames := 0, cells := 0, slots := 0, locals := 0 } : Room) (va_Pc [.ref (a 0), .int x1] (xPre D cy xmb a z S sz)) (xQv D cy xmb a S' v' sz) 0 0 (xA xmb a sz) := by
  refine Met.ofW (cc := cX12_wetNow) (maxL := 3) (ret := none) (by decide) rfl ?_
  intro p e s m args below meth c s₁ B hml hv
  obtain ⟨rfl, hsz, hP, hK, hE⟩ := hv
  subst hsz
  have hl := lv_entry ([.ref (a 0), .int x1]) (n := 3) (Nat.le_of_ble_eq_true rfl)
  rw [lg_entry_eq]
  generalize (lg_sl ([.ref (a 0), .int x1]) ++ List.replicate (3 - (lg_sl ([.ref (a 0), .int x1])).length) Slot.unset).toArray = ls at hl ⊢
  have hl : lv_has ls 3 [(0, .ref (a 0)), (1, .int x1)] := hl
  exact w_X12_wetNow_0 ⟨B.exec, B.bytes, hml, findClass_of_methodNamed B.named, fun w hw => atoms_spec (ws := Cond.code yX12_wetNow cX12_wetNow 3 none :: xTB) B.pre w (List.mem_cons_of_mem _ hw), hK, hI, hE⟩ B.returns B.notSynchronized hf (fun t0 e => e.symm) ⟨hP, va_S.rf⟩ (lv_sub hl [0, 1] rfl)
set_option maxHeartbeats 4000000 in
set_option maxRecDepth 100000 in
theorem w_X12_endsHot_57 {x1 : Int32} (hM : xM p c cX12_endsHot m s args RX12 2 D cy xmb a z) (hr : meth.sig.returnType = (some .int)) (hlk : meth.locks = false) {S' : xSt} {v' : Int32} {S : xSt} {q : ((xSt × Int32) ⊕ (xSt × Int32))} (h : f_X12_endsHot_57 x1 S = some q) (k0 : ∀ t0 : xSt × Int32, q = (.inr t0) → t0 = (S', v')) (k1 : ∀ (S : xSt) (x1 : Int32), q = (.inl (S, x1)) → ∀ (H : Heap) (locs : List Loc) (ls : Array Slot), xG D cy xmb a S s H locs → lv_has ls 2 [(0, .ref (a 0)), (1, .int x1)] → W p l e ({ frames := 8, cells := 0, slots := 0, locals := 179 } : Room) s m args below meth c H locs 0 0 (MQ below (xQi D cy xmb a S' v' s.heap.size) args s 0 0 (xA xmb a s.heap.size)) (F0 m 6 ls [])) {H : Heap} {locs : List Loc} (hG : xG D cy xmb a S s H locs) {ls : Array Slot} (hl : lv_has ls 2 [(0, .ref (a 0)), (1, .int x1)]) : W p l e ({ frames := 8, cells := 0, slots := 0, locals := 179 } : Room) s m args below meth c H locs 0 0 (MQ below (xQi D cy xmb a S' v' s.heap.size) args s 0 0 (xA xmb a s.heap.size)) (F0 m 57 ls []) := by
  have hx := hM.1
  have hb := hM.2.1
  refine x_iinc hM (fun v => [(1, .int v), (0, .ref (a 0))]) h dX12_endsHot_57 hl (k := 1) rfl (by decide) (by decide) (fun _ => rfl) (fun v_1 ls h hl => ?_)
  refine lv_goto (tgt := 6) hx hb dX12_endsHot_60 (by decide) ?_
  exact k1 _ _ (Option.some.inj h).symm _ _ _ hG (lv_sub hl [1, 0] rfl)
set_option maxHeartbeats 4000000 in
set_option maxRecDepth 100000 in
theorem w_X12_endsHot_63 (hM : xM p c cX12_endsHot m s args RX12 2 D cy xmb a z) (hr : meth.sig.returnType = (some .int)) (hlk : meth.locks = false) {S' : xSt} {v' : Int32} {S : xSt} {q : (xSt × Int32)} (h : f_X12_endsHot_63 S = some q) (k0 : ∀ t0 : xSt × Int32, q = t0 → t0 = (S', v')) {H : Heap} {locs : List Loc} (hG : xG D cy xmb a S s H locs) {ls : Array Slot} (hl : lv_has ls 2 [(0, .ref (a 0))]) : W p l e ({ frames := 8, cells := 0, slots := 0, locals := 179 } : Room) s m args below meth c H locs 0 0 (MQ below (xQi D cy xmb a S' v' s.heap.size) args s 0 0 (xA xmb a s.heap.size)) (F0 m 63 ls []) := by
  have hx := hM.1
  have hb := hM.2.1
  refine lv_aload_n hx hb dX12_endsHot_63 rfl (lv_at hl 0 rfl) ?_
  refine lv_aload_n hx hb dX12_endsHot_64 rfl (lv_at hl 0 rfl) ?_
  refine x_gi hM hG xfl_X12_377 xmt_0 (by decide) rfl h dX12_endsHot_65 (fun v_1 h => ?_)
  refine x_cVv (As := [.int v_1]) (rest := []) hM hG xml_X12_291 xwi_X12_goDays xws_X12_goDays xmt_0 (by decide) rfl h (fun S' v e => c_X12_goDays hM.2.2.2.2.2.2.1 e _) ⟨Nat.le_of_ble_eq_true rfl, Nat.le_of_ble_eq_true rfl⟩ rfl hl.1 rfl (Nat.le_of_ble_eq_true rfl) dX12_endsHot_68 (fun S_2 v_3 H locs h hG => ?_)
  refine lv_aload_n hx hb dX12_endsHot_71 rfl (lv_at hl 0 rfl) ?_
  refine x_cVi (As := []) (rest := []) hM hG xml_X12_295 xwi_X12_hottestHeat xws_X12_hottestHeat xmt_0 (by decide) rfl h (fun S' v e => c_X12_hottestHeat hM.2.2.2.2.2.2.1 e _) ⟨Nat.le_of_ble_eq_true rfl, Nat.le_of_ble_eq_true rfl⟩ rfl hl.1 rfl (Nat.le_of_ble_eq_true rfl) dX12_endsHot_72 (fun S_4 v_5 H locs h hG => ?_)
  exact x_ri hM hG hr hlk rfl (k0 _ (Option.some.inj h).symm) dX12_endsHot_75
set_option maxHeartbeats 4000000 in
set_option maxRecDepth 100000 in
theorem w_X12_endsHot_6 {x1 : Int32} (hM : xM p c cX12_endsHot m s args RX12 2 D cy xmb a z) (hr : meth.sig.returnType = (some .int)) (hlk : meth.locks = false) {S' : xSt} {v' : Int32} {S : xSt} {q : ((xSt × Int32) ⊕ (xSt × Int32))} (h : f_X12_endsHot_6 S x1 = some q) (k0 : ∀ t0 : xSt × Int32, q = (.inr t0) → t0 = (S', v')) (k1 : ∀ (S : xSt) (x1 : Int32), q = (.inl (S, x1)) → ∀ (H : Heap) (locs : List Loc) (ls : Array Slot), xG D cy xmb a S s H locs → lv_has ls 2 [(0, .ref (a 0)), (1, .int x1)] → W p l e ({ frames := 8, cells := 0, slots := 0, locals := 179 } : Room) s m args below meth c H locs 0 0 (MQ below (xQi D cy xmb a S' v' s.heap.size) args s 0 0 (xA xmb a s.heap.size)) (F0 m 6 ls [])) {H : Heap} {locs : List Loc} (hG : xG D cy xmb a S s H locs) {ls : Array Slot} (hl : lv_has ls 2 [(0, .ref (a 0)), (1, .int x1)]) : W p l e ({ frames := 8, cells := 0, slots := 0, locals := 179 } : Room) s m args below meth c H locs 0 0 (MQ below (xQi D cy xmb a S' v' s.heap.size) args s 0 0 (xA xmb a s.heap.size)) (F0 m 6 ls []) := by
  have hx := hM.1
  have hb := hM.2.1
  refine lv_iload_n hx hb dX12_endsHot_6 rfl (lv_at hl 1 rfl) ?_
  refine lv_aload_n hx hb dX12_endsHot_7 rfl (lv_at hl 0 rfl) ?_
  refine x_gi hM hG xfl_X12_371 xmt_0 (by decide) rfl h dX12_endsHot_8 (fun v_1 h => ?_)
  refine x_icmp_ge (tgt := 63) hM h dX12_endsHot_11 (by decide) (fun c_2 h => ?_) (fun c_2 h => ?_)
  · obtain ⟨q1, h, e1⟩ := xmr_at h
    exact w_X12_endsHot_63 hM hr hlk h (fun t0 e => k0 t0 (by rw [e1, e])) hG (lv_sub hl [0] rfl)
  · refine lv_aload_n hx hb dX12_endsHot_14 rfl (lv_at hl 0 rfl) ?_
    refine x_gr (r := 31) hM hG xfl_X12_104 xmt_0 (by decide) rfl dX12_endsHot_15 ?_
    refine lv_iload_n hx hb dX12_endsHot_18 rfl (lv_at hl 1 rfl) ?_
    refine x_iald hM hG xmt_31 h dX12_endsHot_19 (fun v_3 h => ?_)
    refine lv_bipush (v := (6 : Int32)) hx hb dX12_endsHot_20 (by decide) ?_
    refine x_icmp_ne (tgt := 28) hM h dX12_endsHot_22 (by decide) (fun c_4 h => ?_) (fun c_4 h => ?_)
    · refine lv_iload_n hx hb dX12_endsHot_28 rfl (lv_at hl 1 rfl) ?_
      refine lv_iconst (v := (2 : Int32)) hx hb dX12_endsHot_29 (by decide) ?_
      refine x_irem hM h dX12_endsHot_30 (fun v_5 h => ?_)
      refine x_if_ne (tgt := 47) hM h dX12_endsHot_31 (by decide) (fun c_6 h => ?_) (fun c_6 h => ?_)
      · refine lv_aload_n hx hb dX12_endsHot_47 rfl (lv_at hl 0 rfl) ?_
        refine lv_aload_n hx hb dX12_endsHot_48 rfl (lv_at hl 0 rfl) ?_
        refine x_gr (r := 31) hM hG xfl_X12_104 xmt_0 (by decide) rfl dX12_endsHot_49 ?_
        refine lv_iload_n hx hb dX12_endsHot_52 rfl (lv_at hl 1 rfl) ?_
        refine x_iald hM hG xmt_31 h dX12_endsHot_53 (fun v_7 h => ?_)
        refine x_cVv (As := [.int v_7]) (rest := []) hM hG xml_X12_374 xwi_X12_wetNow xws_X12_wetNow xmt_0 (by decide) rfl h (fun S' v e => c_X12_wetNow hM.2.2.2.2.2.2.1 e _) ⟨Nat.le_of_ble_eq_true rfl, Nat.le_of_ble_eq_true rfl⟩ rfl hl.1 rfl (Nat.le_of_ble_eq_true rfl) dX12_endsHot_54 (fun S_8 v_9 H locs h hG => ?_)
        exact w_X12_endsHot_57 hM hr hlk h (fun t0 e => k0 t0 e) (fun S x1 e => k1 S x1 e) hG (lv_sub hl [0, 1] rfl)
      · refine lv_aload_n hx hb dX12_endsHot_34 rfl (lv_at hl 0 rfl) ?_
        refine lv_aload_n hx hb dX12_endsHot_35 rfl (lv_at hl 0 rfl) ?_
        refine x_gr (r := 31) hM hG xfl_X12_104 xmt_0 (by decide) rfl dX12_endsHot_36 ?_
        refine lv_iload_n hx hb dX12_endsHot_39 rfl (lv_at hl 1 rfl) ?_
        refine x_iald hM hG xmt_31 h dX12_endsHot_40 (fun v_10 h => ?_)
        refine x_cVv (As := [.int v_10]) (rest := []) hM hG xml_X12_331 xwi_X12_turnNow xws_X12_turnNow xmt_0 (by decide) rfl h (fun S' v e => c_X12_turnNow hM.2.2.2.2.2.2.1 e _) ⟨Nat.le_of_ble_eq_true rfl, Nat.le_of_ble_eq_true rfl⟩ rfl hl.1 rfl (Nat.le_of_ble_eq_true rfl) dX12_endsHot_41 (fun S_11 v_12 H locs h hG => ?_)
        refine lv_goto (tgt := 57) hx hb dX12_endsHot_44 (by decide) ?_
        exact w_X12_endsHot_57 hM hr hlk h (fun t0 e => k0 t0 e) (fun S x1 e => k1 S x1 e) hG (lv_sub hl [0, 1] rfl)
    · refine lv_goto (tgt := 57) hx hb dX12_endsHot_25 (by decide) ?_
      exact w_X12_endsHot_57 hM hr hlk h (fun t0 e => k0 t0 e) (fun S x1 e => k1 S x1 e) hG (lv_sub hl [0, 1] rfl)
theorem wl_X12_endsHot_6 (hM : xM p c cX12_endsHot m s args RX12 2 D cy xmb a z) (hr : meth.sig.returnType = (some .int)) (hlk : meth.locks = false) {S' : xSt} {v' : Int32} {q : (xSt × Int32)} (k0 : ∀ t0 : xSt × Int32, q = t0 → t0 = (S', v')) (n : Nat) : ∀ (S : xSt) (x1 : Int32) (H : Heap) (locs : List Loc) (ls : Array Slot), xlp (fun q : (xSt × Int32) => f_X12_endsHot_6 q.1 q.2) n (S, x1) = some q → xG D cy xmb a S s H locs → lv_has ls 2 [(0, .ref (a 0)), (1, .int x1)] → W p l e ({ frames := 8, cells := 0, slots := 0, locals := 179 } : Room) s m args below meth c H locs 0 0 (MQ below (xQi D cy xmb a S' v' s.heap.size) args s 0 0 (xA xmb a s.heap.size)) (F0 m 6 ls []) := by
  induction n with
  | zero => intro S x1 H locs ls h; exact (xlp_0 h).elim
  | succ n ih =>
    intro S x1 H locs ls h hG hl
    obtain ⟨q1, hq, hc, he⟩ := xlp_at h
    exact w_X12_endsHot_6 hM hr hlk (q := q1) hq (fun t0 e => k0 t0 (he _ e).symm) (fun S x1 e H locs ls hG hl => ih S x1 H locs ls (hc _ e) hG hl) hG hl
set_option maxHeartbeats 4000000 in
set_option maxRecDepth 100000 in
theorem w_X12_endsHot_0 (hM : xM p c cX12_endsHot m s args RX12 2 D cy xmb a z) (hr : meth.sig.returnType = (some .int)) (hlk : meth.locks = false) {S' : xSt} {v' : Int32} {S : xSt} {q : (xSt × Int32)} (h : f_X12_endsHot_0 S = some q) (k0 : ∀ t0 : xSt × Int32, q = t0 → t0 = (S', v')) {H : Heap} {locs : List Loc} (hG : xG D cy xmb a S s H locs) {ls : Array Slot} (hl : lv_has ls 2 [(0, .ref (a 0))]) : W p l e ({ frames := 8, cells := 0, slots := 0, locals := 179 } : Room) s m args below meth c H locs 0 0 (MQ below (xQi D cy xmb a S' v' s.heap.size) args s 0 0 (xA xmb a s.heap.size)) (F0 m 0 ls []) := by
  have hx := hM.1
  have hb := hM.2.1
  refine lv_aload_n hx hb dX12_endsHot_0 rfl (lv_at hl 0 rfl) ?_
  refine x_cVv (As := []) (rest := []) hM hG xml_X12_273 xwi_X12_layNow xws_X12_layNow xmt_0 (by decide) rfl h (fun S' v e => c_X12_layNow hM.2.2.2.2.2.2.1 e _) ⟨Nat.le_of_ble_eq_true rfl, Nat.le_of_ble_eq_true rfl⟩ rfl hl.1 rfl (Nat.le_of_ble_eq_true rfl) dX12_endsHot_1 (fun S_1 v_2 H locs h hG => ?_)
  refine lv_iconst (v := (0 : Int32)) hx hb dX12_endsHot_4 (by decide) ?_
  refine lv_istore_n (lv' := [(1, .int (0 : Int32)), (0, .ref (a 0))]) hx hb dX12_endsHot_5 rfl hl (by decide) rfl (fun ls hl => ?_)
  exact wl_X12_endsHot_6 hM hr hlk (fun t0 e => k0 t0 e) 5000 _ _ _ _ _ h hG (lv_sub hl [1, 0] rfl)
set_option maxHeartbeats 4000000 in
set_option maxRecDepth 100000 in
theorem c_X12_endsHot {l : Launch} {D : va_G} {cy : Nat → ClassId} {a z : Nat → Nat} (hI : xI xmb a) {S : xSt} {S' : xSt} {v' : Int32} (hf : f_X12_endsHot S = some (S', v')) (sz : Nat) : Met l yX12_endsHot (Cond.code yX12_endsHot cX12_endsHot 2 (some .int) :: xTB) ({ frames := 8, cells := 0, slots := 0, locals := 179 } : Room) (va_Pc [.ref (a 0)] (xPre D cy xmb a z S sz)) (xQi D cy xmb a S' v' sz) 0 0 (xA xmb a sz) := by
  refine Met.ofW (cc := cX12_endsHot) (maxL := 2) (ret := (some .int)) (by decide) rfl ?_
  intro p e s m args below meth c s₁ B hml hv
  obtain ⟨rfl, hsz, hP, hK, hE⟩ := hv
  subst hsz
  have hl := lv_entry ([.ref (a 0)]) (n := 2) (Nat.le_of_ble_eq_true rfl)
  rw [lg_entry_eq]
  generalize (lg_sl ([.ref (a 0)]) ++ List.replicate (2 - (lg_sl ([.ref (a 0)])).length) Slot.unset).toArray = ls at hl ⊢
  have hl : lv_has ls 2 [(0, .ref (a 0))] := hl
  exact w_X12_endsHot_0 ⟨B.exec, B.bytes, hml, findClass_of_methodNamed B.named, fun w hw => atoms_spec (ws := Cond.code yX12_endsHot cX12_endsHot 2 (some .int) :: xTB) B.pre w (List.mem_cons_of_mem _ hw), hK, hI, hE⟩ B.returns B.notSynchronized hf (fun t0 e => e.symm) ⟨hP, va_S.rf⟩ (lv_sub hl [0] rfl)
set_option maxHeartbeats 4000000 in
set_option maxRecDepth 100000 in
theorem w_X12_bestOf_61 {d : Nat} {g_X12_bestOf : xSt → Int32 → Option (xSt × Int32)} {g_X12_byDeed : xSt → Int32 → Int32 → Option (xSt × Int32)} (hg_X12_bestOf : ∀ (S : xSt) (x1 : Int32) (S' : xSt) (v' : Int32), g_X12_bestOf S x1 = some (S', v') → ∀ sz : Nat, Met l yX12_bestOf (Cond.code yX12_bestOf cX12_bestOf 5 (some .int) :: xTB) ({ frames := 9 + d, cells := 0, slots := 0, locals := 200 + d * 24 } : Room) (va_Pc [.ref (a 0), .int x1] (xPre D cy xmb a z S sz)) (xQi D cy xmb a S' v' sz) 0 0 (xA xmb a sz)) (hg_X12_byDeed : ∀ (S : xSt) (x1 : Int32) (x2 : Int32) (S' : xSt) (v' : Int32), g_X12_byDeed S x1 x2 = some (S', v') → ∀ sz : Nat, Met l yX12_byDeed (Cond.code yX12_byDeed cX12_byDeed 3 (some .int) :: xTB) ({ frames := 9 + d, cells := 0, slots := 0, locals := 200 + d * 24 } : Room) (va_Pc [.ref (a 0), .int x1, .int x2] (xPre D cy xmb a z S sz)) (xQi D cy xmb a S' v' sz) 0 0 (xA xmb a sz)) {x1 : Int32} {x2 : Int32} {x3 : Int32} (hM : xM p c cX12_bestOf m s args RX12 5 D cy xmb a z) (hr : meth.sig.returnType = (some .int)) (hlk : meth.locks = false) {S' : xSt} {v' : Int32} {S : xSt} {q : ((xSt × Int32 × Int32) ⊕ (xSt × Int32))} (h : f_X12_bestOf_61 g_X12_bestOf g_X12_byDeed x1 x2 x3 S = some q) (k0 : ∀ t0 : xSt × Int32, q = (.inr t0) → t0 = (S', v')) (k1 : ∀ (S : xSt) (x2 : Int32) (x3 : Int32), q = (.inl (S, x2, x3)) → ∀ (H : Heap) (locs : List Loc) (ls : Array Slot), xG D cy xmb a S s H locs → lv_has ls 5 [(0, .ref (a 0)), (1, .int x1), (2, .int x2), (3, .int x3)] → W p l e ({ frames := 9 + (d + 1), cells := 0, slots := 0, locals := 200 + (d + 1) * 24 } : Room) s m args below meth c H locs 0 0 (MQ below (xQi D cy xmb a S' v' s.heap.size) args s 0 0 (xA xmb a s.heap.size)) (F0 m 23 ls [])) {H : Heap} {locs : List Loc} (hG : xG D cy xmb a S s H locs) {ls : Array Slot} (hl : lv_has ls 5 [(0, .ref (a 0)), (1, .int x1), (2, .int x2), (3, .int x3)]) : W p l e ({ frames := 9 + (d + 1), cells := 0, slots := 0, locals := 200 + (d + 1) * 24 } : Room) s m args below meth c H locs 0 0 (MQ below (xQi D cy xmb a S' v' s.heap.size) args s 0 0 (xA xmb a s.heap.size)) (F0 m 61 ls []) := by
  have hx := hM.1
  have hb := hM.2.1
  refine x_iinc hM (fun v => [(3, .int v), (0, .ref (a 0)), (1, .int x1), (2, .int x2)]) h dX12_bestOf_61 hl (k := 3) rfl (by decide) (by decide) (fun _ => rfl) (fun v_1 ls h hl => ?_)
  refine lv_goto (tgt := 23) hx hb dX12_bestOf_64 (by decide) ?_
  exact k1 _ _ _ (Option.some.inj h).symm _ _ _ hG (lv_sub hl [1, 2, 3, 0] rfl)
set_option maxHeartbeats 4000000 in
set_option maxRecDepth 100000 in
theorem w_X12_bestOf_58 {d : Nat} {g_X12_bestOf : xSt → Int32 → Option (xSt × Int32)} {g_X12_byDeed : xSt → Int32 → Int32 → Option (xSt × Int32)} (hg_X12_bestOf : ∀ (S : xSt) (x1 : Int32) (S' : xSt) (v' : Int32), g_X12_bestOf S x1 = some (S', v') → ∀ sz : Nat, Met l yX12_bestOf (Cond.code yX12_bestOf cX12_bestOf 5 (some .int) :: xTB) ({ frames := 9 + d, cells := 0, slots := 0, locals := 200 + d * 24 } : Room) (va_Pc [.ref (a 0), .int x1] (xPre D cy xmb a z S sz)) (xQi D cy xmb a S' v' sz) 0 0 (xA xmb a sz)) (hg_X12_byDeed : ∀ (S : xSt) (x1 : Int32) (x2 : Int32) (S' : xSt) (v' : Int32), g_X12_byDeed S x1 x2 = some (S', v') → ∀ sz : Nat, Met l yX12_byDeed (Cond.code yX12_byDeed cX12_byDeed 3 (some .int) :: xTB) ({ frames := 9 + d, cells := 0, slots := 0, locals := 200 + d * 24 } : Room) (va_Pc [.ref (a 0), .int x1, .int x2] (xPre D cy xmb a z S sz)) (xQi D cy xmb a S' v' sz) 0 0 (xA xmb a sz)) {x1 : Int32} {x3 : Int32} {x4 : Int32} (hM : xM p c cX12_bestOf m s args RX12 5 D cy xmb a z) (hr : meth.sig.returnType = (some .int)) (hlk : meth.locks = false) {S' : xSt} {v' : Int32} {S : xSt} {q : ((xSt × Int32 × Int32) ⊕ (xSt × Int32))} (h : f_X12_bestOf_58 g_X12_bestOf g_X12_byDeed x1 x3 x4 S = some q) (k0 : ∀ t0 : xSt × Int32, q = (.inr t0) → t0 = (S', v')) (k1 : ∀ (S : xSt) (x2 : Int32) (x3 : Int32), q = (.inl (S, x2, x3)) → ∀ (H : Heap) (locs : List Loc) (ls : Array Slot), xG D cy xmb a S s H locs → lv_has ls 5 [(0, .ref (a 0)), (1, .int x1), (2, .int x2), (3, .int x3)] → W p l e ({ frames := 9 + (d + 1), cells := 0, slots := 0, locals := 200 + (d + 1) * 24 } : Room) s m args below meth c H locs 0 0 (MQ below (xQi D cy xmb a S' v' s.heap.size) args s 0 0 (xA xmb a s.heap.size)) (F0 m 23 ls [])) {H : Heap} {locs : List Loc} (hG : xG D cy xmb a S s H locs) {ls : Array Slot} (hl : lv_has ls 5 [(0, .ref (a 0)), (1, .int x1), (3, .int x3), (4, .int x4)]) : W p l e ({ frames := 9 + (d + 1), cells := 0, slots := 0, locals := 200 + (d + 1) * 24 } : Room) s m args below meth c H locs 0 0 (MQ below (xQi D cy xmb a S' v' s.heap.size) args s 0 0 (xA xmb a s.heap.size)) (F0 m 58 ls []) := by
  have hx := hM.1
  have hb := hM.2.1
  refine lv_iload hx hb dX12_bestOf_58 (lv_at hl 3 rfl) ?_
  refine lv_istore_n (lv' := [(2, .int x4), (0, .ref (a 0)), (1, .int x1), (3, .int x3), (4, .int x4)]) hx hb dX12_bestOf_60 rfl hl (by decide) rfl (fun ls hl => ?_)
  exact w_X12_bestOf_61 hg_X12_bestOf hg_X12_byDeed hM hr hlk h (fun t0 e => k0 t0 e) (fun S x2 x3 e => k1 S x2 x3 e) hG (lv_sub hl [1, 2, 0, 3] rfl)
set_option maxHeartbeats 4000000 in
set_option maxRecDepth 100000 in
theorem w_X12_bestOf_23 {d : Nat} {g_X12_bestOf : xSt → Int32 → Option (xSt × Int32)} {g_X12_byDeed : xSt → Int32 → Int32 → Option (xSt × Int32)} (hg_X12_bestOf : ∀ (S : xSt) (x1 : Int32) (S' : xSt) (v' : Int32), g_X12_bestOf S x1 = some (S', v') → ∀ sz : Nat, Met l yX12_bestOf (Cond.code yX12_bestOf cX12_bestOf 5 (some .int) :: xTB) ({ frames := 9 + d, cells := 0, slots := 0, locals := 200 + d * 24 } : Room) (va_Pc [.ref (a 0), .int x1] (xPre D cy xmb a z S sz)) (xQi D cy xmb a S' v' sz) 0 0 (xA xmb a sz)) (hg_X12_byDeed : ∀ (S : xSt) (x1 : Int32) (x2 : Int32) (S' : xSt) (v' : Int32), g_X12_byDeed S x1 x2 = some (S', v') → ∀ sz : Nat, Met l yX12_byDeed (Cond.code yX12_byDeed cX12_byDeed 3 (some .int) :: xTB) ({ frames := 9 + d, cells := 0, slots := 0, locals := 200 + d * 24 } : Room) (va_Pc [.ref (a 0), .int x1, .int x2] (xPre D cy xmb a z S sz)) (xQi D cy xmb a S' v' sz) 0 0 (xA xmb a sz)) {x1 : Int32} {x2 : Int32} {x3 : Int32} (hM : xM p c cX12_bestOf m s args RX12 5 D cy xmb a z) (hr : meth.sig.returnType = (some .int)) (hlk : meth.locks = false) {S' : xSt} {v' : Int32} {S : xSt} {q : ((xSt × Int32 × Int32) ⊕ (xSt × Int32))} (h : f_X12_bestOf_23 g_X12_bestOf g_X12_byDeed x1 S x2 x3 = some q) (k0 : ∀ t0 : xSt × Int32, q = (.inr t0) → t0 = (S', v')) (k1 : ∀ (S : xSt) (x2 : Int32) (x3 : Int32), q = (.inl (S, x2, x3)) → ∀ (H : Heap) (locs : List Loc) (ls : Array Slot), xG D cy xmb a S s H locs → lv_has ls 5 [(0, .ref (a 0)), (1, .int x1), (2, .int x2), (3, .int x3)] → W p l e ({ frames := 9 + (d + 1), cells := 0, slots := 0, locals := 200 + (d + 1) * 24 } : Room) s m args below meth c H locs 0 0 (MQ below (xQi D cy xmb a S' v' s.heap.size) args s 0 0 (xA xmb a s.heap.size)) (F0 m 23 ls [])) {H : Heap} {locs : List Loc} (hG : xG D cy xmb a S s H locs) {ls : Array Slot} (hl : lv_has ls 5 [(0, .ref (a 0)), (1, .int x1), (2, .int x2), (3, .int x3)]) : W p l e ({ frames := 9 + (d + 1), cells := 0, slots := 0, locals := 200 + (d + 1) * 24 } : Room) s m args below meth c H locs 0 0 (MQ below (xQi D cy xmb a S' v' s.heap.size) args s 0 0 (xA xmb a s.heap.size)) (F0 m 23 ls []) := by
  have hx := hM.1
  have hb := hM.2.1
  refine lv_iload_n hx hb dX12_bestOf_23 rfl (lv_at hl 3 rfl) ?_
  refine lv_bipush (v := (6 : Int32)) hx hb dX12_bestOf_24 (by decide) ?_
  refine x_icmp_ge (tgt := 67) hM h dX12_bestOf_26 (by decide) (fun c_1 h => ?_) (fun c_1 h => ?_)
  · refine lv_iload_n hx hb dX12_bestOf_67 rfl (lv_at hl 2 rfl) ?_
    exact x_ri hM hG hr hlk rfl (k0 _ (Option.some.inj h).symm) dX12_bestOf_68
  · refine lv_aload_n hx hb dX12_bestOf_29 rfl (lv_at hl 0 rfl) ?_
    refine lv_iload_n hx hb dX12_bestOf_30 rfl (lv_at hl 1 rfl) ?_
    refine lv_iload_n hx hb dX12_bestOf_31 rfl (lv_at hl 3 rfl) ?_
    refine x_cVi (As := [.int x1, .int x3]) (rest := []) hM hG xml_X12_386 xwi_X12_byDeed xws_X12_byDeed xmt_0 (by decide) rfl h (fun S' v e => hg_X12_byDeed _ _ _ _ _ e _) ⟨by show _ ≤ 9 + (d + 1); omega, by show _ ≤ 200 + (d + 1) * 24; omega⟩ rfl hl.1 rfl (Nat.le_of_ble_eq_true rfl) dX12_bestOf_32 (fun S_2 v_3 H locs h hG => ?_)
    refine lv_istore (lv' := [(4, .int v_3), (0, .ref (a 0)), (1, .int x1), (2, .int x2), (3, .int x3)]) hx hb dX12_bestOf_35 hl (by decide) rfl (fun ls hl => ?_)
    refine lv_iload_n hx hb dX12_bestOf_37 rfl (lv_at hl 2 rfl) ?_
    refine lv_iconst (v := (2 : Int32)) hx hb dX12_bestOf_38 (by decide) ?_
    refine x_irem hM h dX12_bestOf_39 (fun v_4 h => ?_)
    refine x_if_ne (tgt := 52) hM h dX12_bestOf_40 (by decide) (fun c_5 h => ?_) (fun c_5 h => ?_)
    · refine lv_iload hx hb dX12_bestOf_52 (lv_at hl 0 rfl) ?_
      refine lv_iload_n hx hb dX12_bestOf_54 rfl (lv_at hl 3 rfl) ?_
      refine x_icmp_le (tgt := 61) hM h dX12_bestOf_55 (by decide) (fun c_6 h => ?_) (fun c_6 h => ?_)
      · exact w_X12_bestOf_61 hg_X12_bestOf hg_X12_byDeed hM hr hlk h (fun t0 e => k0 t0 e) (fun S x2 x3 e => k1 S x2 x3 e) hG (lv_sub hl [1, 2, 3, 4] rfl)
      · exact w_X12_bestOf_58 hg_X12_bestOf hg_X12_byDeed hM hr hlk h (fun t0 e => k0 t0 e) (fun S x2 x3 e => k1 S x2 x3 e) hG (lv_sub hl [1, 2, 4, 0] rfl)
    · refine lv_iload hx hb dX12_bestOf_43 (lv_at hl 0 rfl) ?_
      refine lv_iload_n hx hb dX12_bestOf_45 rfl (lv_at hl 3 rfl) ?_
      refine x_icmp_ge (tgt := 61) hM h dX12_bestOf_46 (by decide) (fun c_7 h => ?_) (fun c_7 h => ?_)
      · exact w_X12_bestOf_61 hg_X12_bestOf hg_X12_byDeed hM hr hlk h (fun t0 e => k0 t0 e) (fun S x2 x3 e => k1 S x2 x3 e) hG (lv_sub hl [1, 2, 3, 4] rfl)
      · refine lv_goto (tgt := 58) hx hb dX12_bestOf_49 (by decide) ?_
        exact w_X12_bestOf_58 hg_X12_bestOf hg_X12_byDeed hM hr hlk h (fun t0 e => k0 t0 e) (fun S x2 x3 e => k1 S x2 x3 e) hG (lv_sub hl [1, 2, 4, 0] rfl)
theorem wl_X12_bestOf_23 {d : Nat} {g_X12_bestOf : xSt → Int32 → Option (xSt × Int32)} {g_X12_byDeed : xSt → Int32 → Int32 → Option (xSt × Int32)} (hg_X12_bestOf : ∀ (S : xSt) (x1 : Int32) (S' : xSt) (v' : Int32), g_X12_bestOf S x1 = some (S', v') → ∀ sz : Nat, Met l yX12_bestOf (Cond.code yX12_bestOf cX12_bestOf 5 (some .int) :: xTB) ({ frames := 9 + d, cells := 0, slots := 0, locals := 200 + d * 24 } : Room) (va_Pc [.ref (a 0), .int x1] (xPre D cy xmb a z S sz)) (xQi D cy xmb a S' v' sz) 0 0 (xA xmb a sz)) (hg_X12_byDeed : ∀ (S : xSt) (x1 : Int32) (x2 : Int32) (S' : xSt) (v' : Int32), g_X12_byDeed S x1 x2 = some (S', v') → ∀ sz : Nat, Met l yX12_byDeed (Cond.code yX12_byDeed cX12_byDeed 3 (some .int) :: xTB) ({ frames := 9 + d, cells := 0, slots := 0, locals := 200 + d * 24 } : Room) (va_Pc [.ref (a 0), .int x1, .int x2] (xPre D cy xmb a z S sz)) (xQi D cy xmb a S' v' sz) 0 0 (xA xmb a sz)) {x1 : Int32} (hM : xM p c cX12_bestOf m s args RX12 5 D cy xmb a z) (hr : meth.sig.returnType = (some .int)) (hlk : meth.locks = false) {S' : xSt} {v' : Int32} {q : (xSt × Int32)} (k0 : ∀ t0 : xSt × Int32, q = t0 → t0 = (S', v')) (n : Nat) : ∀ (S : xSt) (x2 : Int32) (x3 : Int32) (H : Heap) (locs : List Loc) (ls : Array Slot), xlp (fun q : (xSt × Int32 × Int32) => f_X12_bestOf_23 g_X12_bestOf g_X12_byDeed x1 q.1 q.2.1 q.2.2) n (S, x2, x3) = some q → xG D cy xmb a S s H locs → lv_has ls 5 [(0, .ref (a 0)), (1, .int x1), (2, .int x2), (3, .int x3)] → W p l e ({ frames := 9 + (d + 1), cells := 0, slots := 0, locals := 200 + (d + 1) * 24 } : Room) s m args below meth c H locs 0 0 (MQ below (xQi D cy xmb a S' v' s.heap.size) args s 0 0 (xA xmb a s.heap.size)) (F0 m 23 ls []) := by
  induction n with
  | zero => intro S x2 x3 H locs ls h; exact (xlp_0 h).elim
  | succ n ih =>
    intro S x2 x3 H locs ls h hG hl
    obtain ⟨q1, hq, hc, he⟩ := xlp_at h
    exact w_X12_bestOf_23 hg_X12_bestOf hg_X12_byDeed hM hr hlk (q := q1) hq (fun t0 e => k0 t0 (he _ e).symm) (fun S x2 x3 e H locs ls hG hl => ih S x2 x3 H locs ls (hc _ e) hG hl) hG hl
set_option maxHeartbeats 4000000 in
set_option maxRecDepth 100000 in
theorem w_X12_bestOf_0 {d : Nat} {g_X12_bestOf : xSt → Int32 → Option (xSt × Int32)} {g_X12_byDeed : xSt → Int32 → Int32 → Option (xSt × Int32)} (hg_X12_bestOf : ∀ (S : xSt) (x1 : Int32) (S' : xSt) (v' : Int32), g_X12_bestOf S x1 = some (S', v') → ∀ sz : Nat, Met l yX12_bestOf (Cond.code yX12_bestOf cX12_bestOf 5 (some .int) :: xTB) ({ frames := 9 + d, cells := 0, slots := 0, locals := 200 + d * 24 } : Room) (va_Pc [.ref (a 0), .int x1] (xPre D cy xmb a z S sz)) (xQi D cy xmb a S' v' sz) 0 0 (xA xmb a sz)) (hg_X12_byDeed : ∀ (S : xSt) (x1 : Int32) (x2 : Int32) (S' : xSt) (v' : Int32), g_X12_byDeed S x1 x2 = some (S', v') → ∀ sz : Nat, Met l yX12_byDeed (Cond.code yX12_byDeed cX12_byDeed 3 (some .int) :: xTB) ({ frames := 9 + d, cells := 0, slots := 0, locals := 200 + d * 24 } : Room) (va_Pc [.ref (a 0), .int x1, .int x2] (xPre D cy xmb a z S sz)) (xQi D cy xmb a S' v' sz) 0 0 (xA xmb a sz)) {x1 : Int32} (hM : xM p c cX12_bestOf m s args RX12 5 D cy xmb a z) (hr : meth.sig.returnType = (some .int)) (hlk : meth.locks = false) {S' : xSt} {v' : Int32} {S : xSt} {q : (xSt × Int32)} (h : f_X12_bestOf_0 g_X12_bestOf g_X12_byDeed x1 S = some q) (k0 : ∀ t0 : xSt × Int32, q = t0 → t0 = (S', v')) {H : Heap} {locs : List Loc} (hG : xG D cy xmb a S s H locs) {ls : Array Slot} (hl : lv_has ls 5 [(0, .ref (a 0)), (1, .int x1)]) : W p l e ({ frames := 9 + (d + 1), cells := 0, slots := 0, locals := 200 + (d + 1) * 24 } : Room) s m args below meth c H locs 0 0 (MQ below (xQi D cy xmb a S' v' s.heap.size) args s 0 0 (xA xmb a s.heap.size)) (F0 m 0 ls []) := by
  have hx := hM.1
  have hb := hM.2.1
  refine lv_iload_n hx hb dX12_bestOf_0 rfl (lv_at hl 1 rfl) ?_
  refine lv_aload_n hx hb dX12_bestOf_1 rfl (lv_at hl 0 rfl) ?_
  refine x_gi hM hG xfl_X12_371 xmt_0 (by decide) rfl h dX12_bestOf_2 (fun v_1 h => ?_)
  refine x_icmp_ne (tgt := 13) hM h dX12_bestOf_5 (by decide) (fun c_2 h => ?_) (fun c_2 h => ?_)
  · refine lv_aload_n hx hb dX12_bestOf_13 rfl (lv_at hl 0 rfl) ?_
    refine lv_iload_n hx hb dX12_bestOf_14 rfl (lv_at hl 1 rfl) ?_
    refine lv_bipush (v := (6 : Int32)) hx hb dX12_bestOf_15 (by decide) ?_
    refine x_cVi (As := [.int x1, .int (6 : Int32)]) (rest := []) hM hG xml_X12_386 xwi_X12_byDeed xws_X12_byDeed xmt_0 (by decide) rfl h (fun S' v e => hg_X12_byDeed _ _ _ _ _ e _) ⟨by show _ ≤ 9 + (d + 1); omega, by show _ ≤ 200 + (d + 1) * 24; omega⟩ rfl hl.1 rfl (Nat.le_of_ble_eq_true rfl) dX12_bestOf_17 (fun S_3 v_4 H locs h hG => ?_)
    refine lv_istore_n (lv' := [(2, .int v_4), (0, .ref (a 0)), (1, .int x1)]) hx hb dX12_bestOf_20 rfl hl (by decide) rfl (fun ls hl => ?_)
    refine lv_iconst (v := (0 : Int32)) hx hb dX12_bestOf_21 (by decide) ?_
    refine lv_istore_n (lv' := [(3, .int (0 : Int32)), (2, .int v_4), (0, .ref (a 0)), (1, .int x1)]) hx hb dX12_bestOf_22 rfl hl (by decide) rfl (fun ls hl => ?_)
    exact wl_X12_bestOf_23 hg_X12_bestOf hg_X12_byDeed hM hr hlk (fun t0 e => k0 t0 e) 5000 _ _ _ _ _ _ h hG (lv_sub hl [2, 3, 1, 0] rfl)
  · refine lv_aload_n hx hb dX12_bestOf_8 rfl (lv_at hl 0 rfl) ?_
    refine x_cVi (As := []) (rest := []) hM hG xml_X12_383 xwi_X12_endsHot xws_X12_endsHot xmt_0 (by decide) rfl h (fun S' v e => c_X12_endsHot hM.2.2.2.2.2.2.1 e _) ⟨by show _ ≤ 9 + (d + 1); omega, by show _ ≤ 200 + (d + 1) * 24; omega⟩ rfl hl.1 rfl (Nat.le_of_ble_eq_true rfl) dX12_bestOf_9 (fun S_5 v_6 H locs h hG => ?_)
    exact x_ri hM hG hr hlk rfl (k0 _ (Option.some.inj h).symm) dX12_bestOf_12
set_option maxHeartbeats 4000000 in
set_option maxRecDepth 100000 in
theorem w_X12_byDeed_0 {d : Nat} {g_X12_bestOf : xSt → Int32 → Option (xSt × Int32)} {g_X12_byDeed : xSt → Int32 → Int32 → Option (xSt × Int32)} (hg_X12_bestOf : ∀ (S : xSt) (x1 : Int32) (S' : xSt) (v' : Int32), g_X12_bestOf S x1 = some (S', v') → ∀ sz : Nat, Met l yX12_bestOf (Cond.code yX12_bestOf cX12_bestOf 5 (some .int) :: xTB) ({ frames := 9 + d, cells := 0, slots := 0, locals := 200 + d * 24 } : Room) (va_Pc [.ref (a 0), .int x1] (xPre D cy xmb a z S sz)) (xQi D cy xmb a S' v' sz) 0 0 (xA xmb a sz)) (hg_X12_byDeed : ∀ (S : xSt) (x1 : Int32) (x2 : Int32) (S' : xSt) (v' : Int32), g_X12_byDeed S x1 x2 = some (S', v') → ∀ sz : Nat, Met l yX12_byDeed (Cond.code yX12_byDeed cX12_byDeed 3 (some .int) :: xTB) ({ frames := 9 + d, cells := 0, slots := 0, locals := 200 + d * 24 } : Room) (va_Pc [.ref (a 0), .int x1, .int x2] (xPre D cy xmb a z S sz)) (xQi D cy xmb a S' v' sz) 0 0 (xA xmb a sz)) {x1 : Int32} {x2 : Int32} (hM : xM p c cX12_byDeed m s args RX12 3 D cy xmb a z) (hr : meth.sig.returnType = (some .int)) (hlk : meth.locks = false) {S' : xSt} {v' : Int32} {S : xSt} {q : (xSt × Int32)} (h : f_X12_byDeed_0 g_X12_bestOf g_X12_byDeed x1 x2 S = some q) (k0 : ∀ t0 : xSt × Int32, q = t0 → t0 = (S', v')) {H : Heap} {locs : List Loc} (hG : xG D cy xmb a S s H locs) {ls : Array Slot} (hl : lv_has ls 3 [(0, .ref (a 0)), (1, .int x1), (2, .int x2)]) : W p l e ({ frames := 9 + (d + 1), cells := 0, slots := 0, locals := 200 + (d + 1) * 24 } : Room) s m args below meth c H locs 0 0 (MQ below (xQi D cy xmb a S' v' s.heap.size) args s 0 0 (xA xmb a s.heap.size)) (F0 m 0 ls []) := by
  have hx := hM.1
  have hb := hM.2.1
  refine lv_aload_n hx hb dX12_byDeed_0 rfl (lv_at hl 0 rfl) ?_
  refine x_gr (r := 31) hM hG xfl_X12_104 xmt_0 (by decide) rfl dX12_byDeed_1 ?_
  refine lv_iload_n hx hb dX12_byDeed_4 rfl (lv_at hl 1 rfl) ?_
  refine lv_iload_n hx hb dX12_byDeed_5 rfl (lv_at hl 2 rfl) ?_
  refine x_iast hM hG xmt_31 h dX12_byDeed_6 (fun S_1 H locs h hG => ?_)
  refine lv_aload_n hx hb dX12_byDeed_7 rfl (lv_at hl 0 rfl) ?_
  refine lv_iload_n hx hb dX12_byDeed_8 rfl (lv_at hl 1 rfl) ?_
  refine lv_iconst (v := (1 : Int32)) hx hb dX12_byDeed_9 (by decide) ?_
  refine x_iadd hM h dX12_byDeed_10 (fun v_2 h => ?_)
  refine x_cVi (As := [.int v_2]) (rest := []) hM hG xml_X12_380 xwi_X12_bestOf xws_X12_bestOf xmt_0 (by decide) rfl h (fun S' v e => hg_X12_bestOf _ _ _ _ e _) ⟨by show _ ≤ 9 + (d + 1); omega, by show _ ≤ 200 + (d + 1) * 24; omega⟩ rfl hl.1 rfl (Nat.le_of_ble_eq_true rfl) dX12_byDeed_11 (fun S_3 v_4 H locs h hG => ?_)
  exact x_ri hM hG hr hlk rfl (k0 _ (Option.some.inj h).symm) dX12_byDeed_14
set_option maxHeartbeats 4000000 in
set_option maxRecDepth 100000 in
theorem cr_F_X12_bestOf {l : Launch} {D : va_G} {cy : Nat → ClassId} {a z : Nat → Nat} (hI : xI xmb a) : ∀ d : Nat, (∀ (S : xSt) (x1 : Int32) (S' : xSt) (v' : Int32), f_X12_bestOf d S x1 = some (S', v') → ∀ sz : Nat, Met l yX12_bestOf (Cond.code yX12_bestOf cX12_bestOf 5 (some .int) :: xTB) ({ frames := 9 + d, cells := 0, slots := 0, locals := 200 + d * 24 } : Room) (va_Pc [.ref (a 0), .int x1] (xPre D cy xmb a z S sz)) (xQi D cy xmb a S' v' sz) 0 0 (xA xmb a sz)) ∧ (∀ (S : xSt) (x1 : Int32) (x2 : Int32) (S' : xSt) (v' : Int32), f_X12_byDeed d S x1 x2 = some (S', v') → ∀ sz : Nat, Met l yX12_byDeed (Cond.code yX12_byDeed cX12_byDeed 3 (some .int) :: xTB) ({ frames := 9 + d, cells := 0, slots := 0, locals := 200 + d * 24 } : Room) (va_Pc [.ref (a 0), .int x1, .int x2] (xPre D cy xmb a z S sz)) (xQi D cy xmb a S' v' sz) 0 0 (xA xmb a sz)) := by
  intro d
  induction d with
  | zero => exact ⟨(fun _ _ _ _ h => by cases h), (fun _ _ _ _ _ h => by cases h)⟩
  | succ d ih =>
    obtain ⟨ih0, ih1⟩ := ih
    refine ⟨?_, ?_⟩
    · intro S x1 S' v' hf sz
      refine Met.ofW (cc := cX12_bestOf) (maxL := 5) (ret := (some .int)) (by decide) rfl ?_
      intro p e s m args below meth c s₁ B hml hv
      obtain ⟨rfl, hsz, hP, hK, hE⟩ := hv
      subst hsz
      have hl := lv_entry ([.ref (a 0), .int x1]) (n := 5) (Nat.le_of_ble_eq_true rfl)
      rw [lg_entry_eq]
      generalize (lg_sl ([.ref (a 0), .int x1]) ++ List.replicate (5 - (lg_sl ([.ref (a 0), .int x1])).length) Slot.unset).toArray = ls at hl ⊢
      have hl : lv_has ls 5 [(0, .ref (a 0)), (1, .int x1)] := hl
      exact w_X12_bestOf_0 ih0 ih1 ⟨B.exec, B.bytes, hml, findClass_of_methodNamed B.named, fun w hw => atoms_spec (ws := Cond.code yX12_bestOf cX12_bestOf 5 (some .int) :: xTB) B.pre w (List.mem_cons_of_mem _ hw), hK, hI, hE⟩ B.returns B.notSynchronized hf (fun t0 e => e.symm) ⟨hP, va_S.rf⟩ (lv_sub hl [0, 1] rfl)
    · intro S x1 x2 S' v' hf sz
      refine Met.ofW (cc := cX12_byDeed) (maxL := 3) (ret := (some .int)) (by decide) rfl ?_
      intro p e s m args below meth c s₁ B hml hv
      obtain ⟨rfl, hsz, hP, hK, hE⟩ := hv
      subst hsz
      have hl := lv_entry ([.ref (a 0), .int x1, .int x2]) (n := 3) (Nat.le_of_ble_eq_true rfl)
      rw [lg_entry_eq]
      generalize (lg_sl ([.ref (a 0), .int x1, .int x2]) ++ List.replicate (3 - (lg_sl ([.ref (a 0), .int x1, .int x2])).length) Slot.unset).toArray = ls at hl ⊢
      have hl : lv_has ls 3 [(0, .ref (a 0)), (1, .int x1), (2, .int x2)] := hl
      exact w_X12_byDeed_0 ih0 ih1 ⟨B.exec, B.bytes, hml, findClass_of_methodNamed B.named, fun w hw => atoms_spec (ws := Cond.code yX12_byDeed cX12_byDeed 3 (some .int) :: xTB) B.pre w (List.mem_cons_of_mem _ hw), hK, hI, hE⟩ B.returns B.notSynchronized hf (fun t0 e => e.symm) ⟨hP, va_S.rf⟩ (lv_sub hl [0, 1, 2] rfl)
theorem c_X12_bestOf {l : Launch} {D : va_G} {cy : Nat → ClassId} {a z : Nat → Nat} (hI : xI xmb a) (d : Nat) {S : xSt} {x1 : Int32} {S' : xSt} {v' : Int32} (hf : f_X12_bestOf d S x1 = some (S', v')) (sz : Nat) : Met l yX12_bestOf (Cond.code yX12_bestOf cX12_bestOf 5 (some .int) :: xTB) ({ frames := 9 + d, cells := 0, slots := 0, locals := 200 + d * 24 } : Room) (va_Pc [.ref (a 0), .int x1] (xPre D cy xmb a z S sz)) (xQi D cy xmb a S' v' sz) 0 0 (xA xmb a sz) := (cr_F_X12_bestOf hI d).1 _ _ _ _ hf sz
theorem c_X12_byDeed {l : Launch} {D : va_G} {cy : Nat → ClassId} {a z : Nat → Nat} (hI : xI xmb a) (d : Nat) {S : xSt} {x1 : Int32} {x2 : Int32} {S' : xSt} {v' : Int32} (hf : f_X12_byDeed d S x1 x2 = some (S', v')) (sz : Nat) : Met l yX12_byDeed (Cond.code yX12_byDeed cX12_byDeed 3 (some .int) :: xTB) ({ frames := 9 + d, cells := 0, slots := 0, locals := 200 + d * 24 } : Room) (va_Pc [.ref (a 0), .int x1, .int x2] (xPre D cy xmb a z S sz)) (xQi D cy xmb a S' v' sz) 0 0 (xA xmb a sz) := (cr_F_X12_bestOf hI d).2 _ _ _ _ _ hf sz
set_option maxHeartbeats 4000000 in
set_option maxRecDepth 100000 in
theorem w_X12_byTurns_85 {x3 : Int32} {x4 : Int32} (hM : xM p c cX12_byTurns m s args RX12 5 D cy xmb a z) (hr : meth.sig.returnType = (some .int)) (hlk : meth.locks = false) {S' : xSt} {v' : Int32} {S : xSt} {q : ((xSt × Int32) ⊕ (xSt × Int32))} (h : f_X12_byTurns_85 x3 S x4 = some q) (k0 : ∀ t0 : xSt × Int32, q = (.inr t0) → t0 = (S', v')) (k1 : ∀ (S : xSt) (x4 : Int32), q = (.inl (S, x4)) → ∀ (H : Heap) (locs : List Loc) (ls : Array Slot), xG D cy xmb a S s H locs → lv_has ls 5 [(0, .ref (a 0)), (3, .int x3), (4, .int x4)] → W p l e ({ frames := 80, cells := 0, slots := 0, locals := 1904 } : Room) s m args below meth c H locs 0 0 (MQ below (xQi D cy xmb a S' v' s.heap.size) args s 0 0 (xA xmb a s.heap.size)) (F0 m 85 ls [])) {H : Heap} {locs : List Loc} (hG : xG D cy xmb a S s H locs) {ls : Array Slot} (hl : lv_has ls 5 [(0, .ref (a 0)), (3, .int x3), (4, .int x4)]) : W p l e ({ frames := 80, cells := 0, slots := 0, locals := 1904 } : Room) s m args below meth c H locs 0 0 (MQ below (xQi D cy xmb a S' v' s.heap.size) args s 0 0 (xA xmb a s.heap.size)) (F0 m 85 ls []) := by
  have hx := hM.1
  have hb := hM.2.1
  refine lv_aload_n hx hb dX12_byTurns_85 rfl (lv_at hl 0 rfl) ?_
  refine lv_iconst (v := (0 : Int32)) hx hb dX12_byTurns_86 (by decide) ?_
  refine lv_iload hx hb dX12_byTurns_87 (lv_at hl 2 rfl) ?_
  refine x_cVi (As := [.int (0 : Int32), .int x4]) (rest := []) hM hG xml_X12_386 xwi_X12_byDeed xws_X12_byDeed xmt_0 (by decide) rfl h (fun S' v e => c_X12_byDeed hM.2.2.2.2.2.2.1 70 e _) ⟨Nat.le_of_ble_eq_true rfl, Nat.le_of_ble_eq_true rfl⟩ rfl hl.1 rfl (Nat.le_of_ble_eq_true rfl) dX12_byTurns_89 (fun S_1 v_2 H locs h hG => ?_)
  refine lv_iload_n hx hb dX12_byTurns_92 rfl (lv_at hl 1 rfl) ?_
  refine x_icmp_eq (tgt := 102) hM h dX12_byTurns_93 (by decide) (fun c_3 h => ?_) (fun c_3 h => ?_)
  · refine lv_iload hx hb dX12_byTurns_102 (lv_at hl 2 rfl) ?_
    exact x_ri hM hG hr hlk rfl (k0 _ (Option.some.inj h).symm) dX12_byTurns_104
  · refine x_iinc hM (fun v => [(4, .int v), (0, .ref (a 0)), (3, .int x3)]) h dX12_byTurns_96 hl (k := 2) rfl (by decide) (by decide) (fun _ => rfl) (fun v_4 ls h hl => ?_)
    refine lv_goto (tgt := 85) hx hb dX12_byTurns_99 (by decide) ?_
    exact k1 _ _ (Option.some.inj h).symm _ _ _ hG (lv_sub hl [1, 2, 0] rfl)
theorem wl_X12_byTurns_85 {x3 : Int32} (hM : xM p c cX12_byTurns m s args RX12 5 D cy xmb a z) (hr : meth.sig.returnType = (some .int)) (hlk : meth.locks = false) {S' : xSt} {v' : Int32} {q : (xSt × Int32)} (k0 : ∀ t0 : xSt × Int32, q = t0 → t0 = (S', v')) (n : Nat) : ∀ (S : xSt) (x4 : Int32) (H : Heap) (locs : List Loc) (ls : Array Slot), xlp (fun q : (xSt × Int32) => f_X12_byTurns_85 x3 q.1 q.2) n (S, x4) = some q → xG D cy xmb a S s H locs → lv_has ls 5 [(0, .ref (a 0)), (3, .int x3), (4, .int x4)] → W p l e ({ frames := 80, cells := 0, slots := 0, locals := 1904 } : Room) s m args below meth c H locs 0 0 (MQ below (xQi D cy xmb a S' v' s.heap.size) args s 0 0 (xA xmb a s.heap.size)) (F0 m 85 ls []) := by
  induction n with
  | zero => intro S x4 H locs ls h; exact (xlp_0 h).elim
  | succ n ih =>
    intro S x4 H locs ls h hG hl
    obtain ⟨q1, hq, hc, he⟩ := xlp_at h
    exact w_X12_byTurns_85 hM hr hlk (q := q1) hq (fun t0 e => k0 t0 (he _ e).symm) (fun S x4 e H locs ls hG hl => ih S x4 H locs ls (hc _ e) hG hl) hG hl
set_option maxHeartbeats 4000000 in
set_option maxRecDepth 100000 in
theorem w_X12_byTurns_0 {x1 : Int32} {x2 : Int32} (hM : xM p c cX12_byTurns m s args RX12 5 D cy xmb a z) (hr : meth.sig.returnType = (some .int)) (hlk : meth.locks = false) {S' : xSt} {v' : Int32} {S : xSt} {q : (xSt × Int32)} (h : f_X12_byTurns_0 x1 x2 S = some q) (k0 : ∀ t0 : xSt × Int32, q = t0 → t0 = (S', v')) {H : Heap} {locs : List Loc} (hG : xG D cy xmb a S s H locs) {ls : Array Slot} (hl : lv_has ls 5 [(0, .ref (a 0)), (1, .int x1), (2, .int x2)]) : W p l e ({ frames := 80, cells := 0, slots := 0, locals := 1904 } : Room) s m args below meth c H locs 0 0 (MQ below (xQi D cy xmb a S' v' s.heap.size) args s 0 0 (xA xmb a s.heap.size)) (F0 m 0 ls []) := by
  have hx := hM.1
  have hb := hM.2.1
  refine lv_iload_n hx hb dX12_byTurns_0 rfl (lv_at hl 1 rfl) ?_
  refine lv_bipush (v := (10 : Int32)) hx hb dX12_byTurns_1 (by decide) ?_
  refine x_idiv hM h dX12_byTurns_3 (fun v_1 h => ?_)
  refine lv_iconst (v := (1 : Int32)) hx hb dX12_byTurns_4 (by decide) ?_
  refine lv_iconst (v := (3 : Int32)) hx hb dX12_byTurns_5 (by decide) ?_
  refine x_cSi (As := [.int v_1, .int (1 : Int32), .int (3 : Int32)]) (rest := []) hM hG xml_X12_142 xwt_X12_in h (fun S' v e => c_X12_in hM.2.2.2.2.2.2.1 e _) ⟨Nat.le_of_ble_eq_true rfl, Nat.le_of_ble_eq_true rfl⟩ rfl hl.1 rfl (Nat.le_of_ble_eq_true rfl) dX12_byTurns_6 (fun S_2 v_3 H locs h hG => ?_)
  refine x_if_eq (tgt := 34) hM h dX12_byTurns_9 (by decide) (fun c_4 h => ?_) (fun c_4 h => ?_)
  · refine lv_iconst (v := (-1 : Int32)) hx hb dX12_byTurns_34 (by decide) ?_
    exact x_ri hM hG hr hlk rfl (k0 _ (Option.some.inj h).symm) dX12_byTurns_35
  · refine lv_iload_n hx hb dX12_byTurns_12 rfl (lv_at hl 1 rfl) ?_
    refine lv_bipush (v := (10 : Int32)) hx hb dX12_byTurns_13 (by decide) ?_
    refine x_irem hM h dX12_byTurns_15 (fun v_5 h => ?_)
    refine lv_iconst (v := (0 : Int32)) hx hb dX12_byTurns_16 (by decide) ?_
    refine lv_bipush (v := (9 : Int32)) hx hb dX12_byTurns_17 (by decide) ?_
    refine x_cSi (As := [.int v_5, .int (0 : Int32), .int (9 : Int32)]) (rest := []) hM hG xml_X12_142 xwt_X12_in h (fun S' v e => c_X12_in hM.2.2.2.2.2.2.1 e _) ⟨Nat.le_of_ble_eq_true rfl, Nat.le_of_ble_eq_true rfl⟩ rfl hl.1 rfl (Nat.le_of_ble_eq_true rfl) dX12_byTurns_19 (fun S_6 v_7 H locs h hG => ?_)
    refine x_if_eq (tgt := 34) hM h dX12_byTurns_22 (by decide) (fun c_8 h => ?_) (fun c_8 h => ?_)
    · refine lv_iconst (v := (-1 : Int32)) hx hb dX12_byTurns_34 (by decide) ?_
      exact x_ri hM hG hr hlk rfl (k0 _ (Option.some.inj h).symm) dX12_byTurns_35
    · refine lv_iload_n hx hb dX12_byTurns_25 rfl (lv_at hl 2 rfl) ?_
      refine lv_iconst (v := (0 : Int32)) hx hb dX12_byTurns_26 (by decide) ?_
      refine lv_iconst (v := (1 : Int32)) hx hb dX12_byTurns_27 (by decide) ?_
      refine x_cSi (As := [.int x2, .int (0 : Int32), .int (1 : Int32)]) (rest := []) hM hG xml_X12_142 xwt_X12_in h (fun S' v e => c_X12_in hM.2.2.2.2.2.2.1 e _) ⟨Nat.le_of_ble_eq_true rfl, Nat.le_of_ble_eq_true rfl⟩ rfl hl.1 rfl (Nat.le_of_ble_eq_true rfl) dX12_byTurns_28 (fun S_9 v_10 H locs h hG => ?_)
      refine x_if_ne (tgt := 36) hM h dX12_byTurns_31 (by decide) (fun c_11 h => ?_) (fun c_11 h => ?_)
      · refine lv_aload_n hx hb dX12_byTurns_36 rfl (lv_at hl 0 rfl) ?_
        refine lv_iload_n hx hb dX12_byTurns_37 rfl (lv_at hl 1 rfl) ?_
        refine lv_bipush (v := (10 : Int32)) hx hb dX12_byTurns_38 (by decide) ?_
        refine x_idiv hM h dX12_byTurns_40 (fun v_12 h => ?_)
        refine x_pi hM hG xfl_X12_371 xfp_X12_44 xmt_0 (by decide) rfl rfl rfl h dX12_byTurns_41 (fun S_13 H locs h hG => ?_)
        refine lv_aload_n hx hb dX12_byTurns_44 rfl (lv_at hl 0 rfl) ?_
        refine lv_iload_n hx hb dX12_byTurns_45 rfl (lv_at hl 1 rfl) ?_
        refine lv_bipush (v := (10 : Int32)) hx hb dX12_byTurns_46 (by decide) ?_
        refine x_irem hM h dX12_byTurns_48 (fun v_14 h => ?_)
        refine x_pi hM hG xfl_X12_377 xfp_X12_45 xmt_0 (by decide) rfl rfl rfl h dX12_byTurns_49 (fun S_15 H locs h hG => ?_)
        refine lv_aload_n hx hb dX12_byTurns_52 rfl (lv_at hl 0 rfl) ?_
        refine lv_iconst (v := (0 : Int32)) hx hb dX12_byTurns_53 (by decide) ?_
        refine x_cVi (As := [.int (0 : Int32)]) (rest := []) hM hG xml_X12_380 xwi_X12_bestOf xws_X12_bestOf xmt_0 (by decide) rfl h (fun S' v e => c_X12_bestOf hM.2.2.2.2.2.2.1 70 e _) ⟨Nat.le_of_ble_eq_true rfl, Nat.le_of_ble_eq_true rfl⟩ rfl hl.1 rfl (Nat.le_of_ble_eq_true rfl) dX12_byTurns_54 (fun S_16 v_17 H locs h hG => ?_)
        refine lv_istore_n (lv' := [(3, .int v_17), (0, .ref (a 0)), (1, .int x1), (2, .int x2)]) hx hb dX12_byTurns_57 rfl hl (by decide) rfl (fun ls hl => ?_)
        refine lv_iload_n hx hb dX12_byTurns_58 rfl (lv_at hl 3 rfl) ?_
        refine x_if_eq (tgt := 66) hM h dX12_byTurns_59 (by decide) (fun c_18 h => ?_) (fun c_18 h => ?_)
        · refine lv_iload_n hx hb dX12_byTurns_66 rfl (lv_at hl 0 rfl) ?_
          exact x_ri hM hG hr hlk rfl (k0 _ (Option.some.inj h).symm) dX12_byTurns_67
        · refine lv_iload_n hx hb dX12_byTurns_62 rfl (lv_at hl 0 rfl) ?_
          refine x_if_ge (tgt := 68) hM h dX12_byTurns_63 (by decide) (fun c_19 h => ?_) (fun c_19 h => ?_)
          · refine lv_aload_n hx hb dX12_byTurns_68 rfl (lv_at hl 1 rfl) ?_
            refine lv_iconst (v := (0 : Int32)) hx hb dX12_byTurns_69 (by decide) ?_
            refine lv_bipush (v := (6 : Int32)) hx hb dX12_byTurns_70 (by decide) ?_
            refine x_cVi (As := [.int (0 : Int32), .int (6 : Int32)]) (rest := []) hM hG xml_X12_386 xwi_X12_byDeed xws_X12_byDeed xmt_0 (by decide) rfl h (fun S' v e => c_X12_byDeed hM.2.2.2.2.2.2.1 70 e _) ⟨Nat.le_of_ble_eq_true rfl, Nat.le_of_ble_eq_true rfl⟩ rfl hl.1 rfl (Nat.le_of_ble_eq_true rfl) dX12_byTurns_72 (fun S_20 v_21 H locs h hG => ?_)
            refine lv_iload_n hx hb dX12_byTurns_75 rfl (lv_at hl 0 rfl) ?_
            refine x_icmp_ne (tgt := 82) hM h dX12_byTurns_76 (by decide) (fun c_22 h => ?_) (fun c_22 h => ?_)
            · refine lv_iconst (v := (0 : Int32)) hx hb dX12_byTurns_82 (by decide) ?_
              refine lv_istore (lv' := [(4, .int (0 : Int32)), (3, .int v_17), (0, .ref (a 0)), (1, .int x1), (2, .int x2)]) hx hb dX12_byTurns_83 hl (by decide) rfl (fun ls hl => ?_)
              exact wl_X12_byTurns_85 hM hr hlk (fun t0 e => k0 t0 e) 5000 _ _ _ _ _ h hG (lv_sub hl [2, 1, 0] rfl)
            · refine lv_bipush (v := (6 : Int32)) hx hb dX12_byTurns_79 (by decide) ?_
              exact x_ri hM hG hr hlk rfl (k0 _ (Option.some.inj h).symm) dX12_byTurns_81
          · refine lv_iload_n hx hb dX12_byTurns_66 rfl (lv_at hl 0 rfl) ?_
            exact x_ri hM hG hr hlk rfl (k0 _ (Option.some.inj h).symm) dX12_byTurns_67
      · refine lv_iconst (v := (-1 : Int32)) hx hb dX12_byTurns_34 (by decide) ?_
        exact x_ri hM hG hr hlk rfl (k0 _ (Option.some.inj h).symm) dX12_byTurns_35
set_option maxHeartbeats 4000000 in
set_option maxRecDepth 100000 in
theorem c_X12_byTurns {l : Launch} {D : va_G} {cy : Nat → ClassId} {a z : Nat → Nat} (hI : xI xmb a) {S : xSt} {x1 : Int32} {x2 : Int32} {S' : xSt} {v' : Int32} (hf : f_X12_byTurns S x1 x2 = some (S', v')) (sz : Nat) : Met l yX12_byTurns (Cond.code yX12_byTurns cX12_byTurns 5 (some .int) :: xTB) ({ frames := 80, cells := 0, slots := 0, locals := 1904 } : Room) (va_Pc [.ref (a 0), .int x1, .int x2] (xPre D cy xmb a z S sz)) (xQi D cy xmb a S' v' sz) 0 0 (xA xmb a sz) := by
  refine Met.ofW (cc := cX12_byTurns) (maxL := 5) (ret := (some .int)) (by decide) rfl ?_
  intro p e s m args below meth c s₁ B hml hv
  obtain ⟨rfl, hsz, hP, hK, hE⟩ := hv
  subst hsz
  have hl := lv_entry ([.ref (a 0), .int x1, .int x2]) (n := 5) (Nat.le_of_ble_eq_true rfl)
  rw [lg_entry_eq]
  generalize (lg_sl ([.ref (a 0), .int x1, .int x2]) ++ List.replicate (5 - (lg_sl ([.ref (a 0), .int x1, .int x2])).length) Slot.unset).toArray = ls at hl ⊢
  have hl : lv_has ls 5 [(0, .ref (a 0)), (1, .int x1), (2, .int x2)] := hl
  exact w_X12_byTurns_0 ⟨B.exec, B.bytes, hml, findClass_of_methodNamed B.named, fun w hw => atoms_spec (ws := Cond.code yX12_byTurns cX12_byTurns 5 (some .int) :: xTB) B.pre w (List.mem_cons_of_mem _ hw), hK, hI, hE⟩ B.returns B.notSynchronized hf (fun t0 e => e.symm) ⟨hP, va_S.rf⟩ (lv_sub hl [0, 1, 2] rfl)
set_option maxHeartbeats 4000000 in
set_option maxRecDepth 100000 in
theorem w_X12_drawn_130 {x2 : Int32} {x3 : Int32} {x4 : Int32} {x6 : Int32} {x7 : Int32} {x5 : Int32} {x8 : Int32} (hM : xM p c cX12_drawn m s args RX12 9 D cy xmb a z) (hr : meth.sig.returnType = (some .int)) (hlk : meth.locks = false) {S' : xSt} {v' : Int32} {S : xSt} {q : ((xSt × Int32 × Int32) ⊕ ((xSt × Int32 × Int32 × Int32) ⊕ (xSt × Int32)))} (h : f_X12_drawn_130 x2 x3 x4 x5 x6 x7 x8 S = some q) (k0 : ∀ t0 : xSt × Int32, q = (.inr (.inr t0)) → t0 = (S', v')) (k1 : ∀ (S : xSt) (x5 : Int32) (x6 : Int32) (x7 : Int32), q = (.inr (.inl (S, x5, x6, x7))) → ∀ (H : Heap) (locs : List Loc) (ls : Array Slot), xG D cy xmb a S s H locs → lv_has ls 9 [(0, .ref (a 0)), (2, .int x2), (3, .int x3), (4, .int x4), (5, .int x5), (6, .int x6), (7, .int x7)] → W p l e ({ frames := 7, cells := 0, slots := 0, locals := 157 } : Room) s m args below meth c H locs 0 0 (MQ below (xQi D cy xmb a S' v' s.heap.size) args s 0 0 (xA xmb a s.heap.size)) (F0 m 67 ls [])) (k2 : ∀ (S : xSt) (x5 : Int32) (x8 : Int32), q = (.inl (S, x5, x8)) → ∀ (H : Heap) (locs : List Loc) (ls : Array Slot), xG D cy xmb a S s H locs → lv_has ls 9 [(0, .ref (a 0)), (2, .int x2), (3, .int x3), (4, .int x4), (5, .int x5), (6, .int x6), (7, .int x7), (8, .int x8)] → W p l e ({ frames := 7, cells := 0, slots := 0, locals := 157 } : Room) s m args below meth c H locs 0 0 (MQ below (xQi D cy xmb a S' v' s.heap.size) args s 0 0 (xA xmb a s.heap.size)) (F0 m 84 ls [])) {H : Heap} {locs : List Loc} (hG : xG D cy xmb a S s H locs) {ls : Array Slot} (hl : lv_has ls 9 [(0, .ref (a 0)), (2, .int x2), (3, .int x3), (4, .int x4), (5, .int x5), (6, .int x6), (7, .int x7), (8, .int x8)]) : W p l e ({ frames := 7, cells := 0, slots := 0, locals := 157 } : Room) s m args below meth c H locs 0 0 (MQ below (xQi D cy xmb a S' v' s.heap.size) args s 0 0 (xA xmb a s.heap.size)) (F0 m 130 ls []) := by
  have hx := hM.1
  have hb := hM.2.1
  refine lv_aload_n hx hb dX12_drawn_130 rfl (lv_at hl 0 rfl) ?_
  refine x_cVv (As := []) (rest := []) hM hG xml_X12_282 xwi_X12_goDay xws_X12_goDay xmt_0 (by decide) rfl h (fun S' v e => c_X12_goDay hM.2.2.2.2.2.2.1 e _) ⟨Nat.le_of_ble_eq_true rfl, Nat.le_of_ble_eq_true rfl⟩ rfl hl.1 rfl (Nat.le_of_ble_eq_true rfl) dX12_drawn_131 (fun S_1 v_2 H locs h hG => ?_)
  refine x_iinc hM (fun v => [(8, .int v), (0, .ref (a 0)), (2, .int x2), (3, .int x3), (4, .int x4), (5, .int x5), (6, .int x6), (7, .int x7)]) h dX12_drawn_134 hl (k := 7) rfl (by decide) (by decide) (fun _ => rfl) (fun v_3 ls h hl => ?_)
  refine lv_goto (tgt := 84) hx hb dX12_drawn_137 (by decide) ?_
  exact k2 _ _ _ (Option.some.inj h).symm _ _ _ hG (lv_sub hl [1, 2, 3, 4, 5, 6, 7, 0] rfl)
set_option maxHeartbeats 4000000 in
set_option maxRecDepth 100000 in
theorem w_X12_drawn_166 {x2 : Int32} {x3 : Int32} {x4 : Int32} {x5 : Int32} {x7 : Int32} {y0 : Int32} {y1 : Int32} (hM : xM p c cX12_drawn m s args RX12 9 D cy xmb a z) (hr : meth.sig.returnType = (some .int)) (hlk : meth.locks = false) {S' : xSt} {v' : Int32} {S : xSt} {q : ((xSt × Int32 × Int32 × Int32) ⊕ (xSt × Int32))} (h : f_X12_drawn_166 x2 x3 x4 x5 x7 y0 y1 S = some q) (k0 : ∀ t0 : xSt × Int32, q = (.inr t0) → t0 = (S', v')) (k1 : ∀ (S : xSt) (x5 : Int32) (x6 : Int32) (x7 : Int32), q = (.inl (S, x5, x6, x7)) → ∀ (H : Heap) (locs : List Loc) (ls : Array Slot), xG D cy xmb a S s H locs → lv_has ls 9 [(0, .ref (a 0)), (2, .int x2), (3, .int x3), (4, .int x4), (5, .int x5), (6, .int x6), (7, .int x7)] → W p l e ({ frames := 7, cells := 0, slots := 0, locals := 157 } : Room) s m args below meth c H locs 0 0 (MQ below (xQi D cy xmb a S' v' s.heap.size) args s 0 0 (xA xmb a s.heap.size)) (F0 m 67 ls [])) {H : Heap} {locs : List Loc} (hG : xG D cy xmb a S s H locs) {ls : Array Slot} (hl : lv_has ls 9 [(0, .ref (a 0)), (2, .int x2), (3, .int x3), (4, .int x4), (5, .int x5), (7, .int x7)]) : W p l e ({ frames := 7, cells := 0, slots := 0, locals := 157 } : Room) s m args below meth c H locs 0 0 (MQ below (xQi D cy xmb a S' v' s.heap.size) args s 0 0 (xA xmb a s.heap.size)) (F0 m 166 ls [.int y1, .int y0]) := by
  have hx := hM.1
  have hb := hM.2.1
  refine x_iadd hM h dX12_drawn_166 (fun v_1 h => ?_)
  refine lv_istore (lv' := [(6, .int v_1), (0, .ref (a 0)), (2, .int x2), (3, .int x3), (4, .int x4), (5, .int x5), (7, .int x7)]) hx hb dX12_drawn_167 hl (by decide) rfl (fun ls hl => ?_)
  refine x_iinc hM (fun v => [(7, .int v), (6, .int v_1), (0, .ref (a 0)), (2, .int x2), (3, .int x3), (4, .int x4), (5, .int x5)]) h dX12_drawn_169 hl (k := 6) rfl (by decide) (by decide) (fun _ => rfl) (fun v_2 ls h hl => ?_)
  refine lv_goto (tgt := 67) hx hb dX12_drawn_172 (by decide) ?_
  exact k1 _ _ _ _ (Option.some.inj h).symm _ _ _ hG (lv_sub hl [2, 3, 4, 5, 6, 1, 0] rfl)
set_option maxHeartbeats 4000000 in
set_option maxRecDepth 100000 in
theorem w_X12_drawn_140 {x2 : Int32} {x3 : Int32} {x4 : Int32} {x5 : Int32} {x6 : Int32} {x7 : Int32} (hM : xM p c cX12_drawn m s args RX12 9 D cy xmb a z) (hr : meth.sig.returnType = (some .int)) (hlk : meth.locks = false) {S' : xSt} {v' : Int32} {S : xSt} {q : ((xSt × Int32 × Int32 × Int32) ⊕ (xSt × Int32))} (h : f_X12_drawn_140 x2 x3 x4 x5 x6 x7 S = some q) (k0 : ∀ t0 : xSt × Int32, q = (.inr t0) → t0 = (S', v')) (k1 : ∀ (S : xSt) (x5 : Int32) (x6 : Int32) (x7 : Int32), q = (.inl (S, x5, x6, x7)) → ∀ (H : Heap) (locs : List Loc) (ls : Array Slot), xG D cy xmb a S s H locs → lv_has ls 9 [(0, .ref (a 0)), (2, .int x2), (3, .int x3), (4, .int x4), (5, .int x5), (6, .int x6), (7, .int x7)] → W p l e ({ frames := 7, cells := 0, slots := 0, locals := 157 } : Room) s m args below meth c H locs 0 0 (MQ below (xQi D cy xmb a S' v' s.heap.size) args s 0 0 (xA xmb a s.heap.size)) (F0 m 67 ls [])) {H : Heap} {locs : List Loc} (hG : xG D cy xmb a S s H locs) {ls : Array Slot} (hl : lv_has ls 9 [(0, .ref (a 0)), (2, .int x2), (3, .int x3), (4, .int x4), (5, .int x5), (6, .int x6), (7, .int x7)]) : W p l e ({ frames := 7, cells := 0, slots := 0, locals := 157 } : Room) s m args below meth c H locs 0 0 (MQ below (xQi D cy xmb a S' v' s.heap.size) args s 0 0 (xA xmb a s.heap.size)) (F0 m 140 ls []) := by
  have hx := hM.1
  have hb := hM.2.1
  refine lv_iload hx hb dX12_drawn_140 (lv_at hl 5 rfl) ?_
  refine lv_iload_n hx hb dX12_drawn_142 rfl (lv_at hl 2 rfl) ?_
  refine lv_iconst (v := (1 : Int32)) hx hb dX12_drawn_143 (by decide) ?_
  refine x_icmp_ne (tgt := 154) hM h dX12_drawn_144 (by decide) (fun c_1 h => ?_) (fun c_1 h => ?_)
  · refine lv_aload_n hx hb dX12_drawn_154 rfl (lv_at hl 0 rfl) ?_
    refine x_cVi (As := []) (rest := [.int x6]) hM hG xml_X12_298 xwi_X12_glowMany xws_X12_glowMany xmt_0 (by decide) rfl h (fun S' v e => c_X12_glowMany hM.2.2.2.2.2.2.1 e _) ⟨Nat.le_of_ble_eq_true rfl, Nat.le_of_ble_eq_true rfl⟩ rfl hl.1 rfl (Nat.le_of_ble_eq_true rfl) dX12_drawn_155 (fun S_2 v_3 H locs h hG => ?_)
    refine x_if_le (tgt := 165) hM h dX12_drawn_158 (by decide) (fun c_4 h => ?_) (fun c_4 h => ?_)
    · refine lv_iconst (v := (0 : Int32)) hx hb dX12_drawn_165 (by decide) ?_
      exact w_X12_drawn_166 hM hr hlk h (fun t0 e => k0 t0 e) (fun S x5 x6 x7 e => k1 S x5 x6 x7 e) hG (lv_sub hl [0, 1, 2, 3, 4, 6] rfl)
    · refine lv_iconst (v := (1 : Int32)) hx hb dX12_drawn_161 (by decide) ?_
      refine lv_goto (tgt := 166) hx hb dX12_drawn_162 (by decide) ?_
      exact w_X12_drawn_166 hM hr hlk h (fun t0 e => k0 t0 e) (fun S x5 x6 x7 e => k1 S x5 x6 x7 e) hG (lv_sub hl [0, 1, 2, 3, 4, 6] rfl)
  · refine lv_aload_n hx hb dX12_drawn_147 rfl (lv_at hl 0 rfl) ?_
    refine x_cVi (As := []) (rest := [.int x6]) hM hG xml_X12_301 xwi_X12_allGood xws_X12_allGood xmt_0 (by decide) rfl h (fun S' v e => c_X12_allGood hM.2.2.2.2.2.2.1 e _) ⟨Nat.le_of_ble_eq_true rfl, Nat.le_of_ble_eq_true rfl⟩ rfl hl.1 rfl (Nat.le_of_ble_eq_true rfl) dX12_drawn_148 (fun S_5 v_6 H locs h hG => ?_)
    refine lv_goto (tgt := 166) hx hb dX12_drawn_151 (by decide) ?_
    exact w_X12_drawn_166 hM hr hlk h (fun t0 e => k0 t0 e) (fun S x5 x6 x7 e => k1 S x5 x6 x7 e) hG (lv_sub hl [0, 1, 2, 3, 4, 6] rfl)
set_option maxHeartbeats 4000000 in
set_option maxRecDepth 100000 in
theorem w_X12_drawn_84 {x2 : Int32} {x3 : Int32} {x4 : Int32} {x6 : Int32} {x7 : Int32} {x5 : Int32} {x8 : Int32} (hM : xM p c cX12_drawn m s args RX12 9 D cy xmb a z) (hr : meth.sig.returnType = (some .int)) (hlk : meth.locks = false) {S' : xSt} {v' : Int32} {S : xSt} {q : ((xSt × Int32 × Int32) ⊕ ((xSt × Int32 × Int32 × Int32) ⊕ (xSt × Int32)))} (h : f_X12_drawn_84 x2 x3 x4 x6 x7 S x5 x8 = some q) (k0 : ∀ t0 : xSt × Int32, q = (.inr (.inr t0)) → t0 = (S', v')) (k1 : ∀ (S : xSt) (x5 : Int32) (x6 : Int32) (x7 : Int32), q = (.inr (.inl (S, x5, x6, x7))) → ∀ (H : Heap) (locs : List Loc) (ls : Array Slot), xG D cy xmb a S s H locs → lv_has ls 9 [(0, .ref (a 0)), (2, .int x2), (3, .int x3), (4, .int x4), (5, .int x5), (6, .int x6), (7, .int x7)] → W p l e ({ frames := 7, cells := 0, slots := 0, locals := 157 } : Room) s m args below meth c H locs 0 0 (MQ below (xQi D cy xmb a S' v' s.heap.size) args s 0 0 (xA xmb a s.heap.size)) (F0 m 67 ls [])) (k2 : ∀ (S : xSt) (x5 : Int32) (x8 : Int32), q = (.inl (S, x5, x8)) → ∀ (H : Heap) (locs : List Loc) (ls : Array Slot), xG D cy xmb a S s H locs → lv_has ls 9 [(0, .ref (a 0)), (2, .int x2), (3, .int x3), (4, .int x4), (5, .int x5), (6, .int x6), (7, .int x7), (8, .int x8)] → W p l e ({ frames := 7, cells := 0, slots := 0, locals := 157 } : Room) s m args below meth c H locs 0 0 (MQ below (xQi D cy xmb a S' v' s.heap.size) args s 0 0 (xA xmb a s.heap.size)) (F0 m 84 ls [])) {H : Heap} {locs : List Loc} (hG : xG D cy xmb a S s H locs) {ls : Array Slot} (hl : lv_has ls 9 [(0, .ref (a 0)), (2, .int x2), (3, .int x3), (4, .int x4), (5, .int x5), (6, .int x6), (7, .int x7), (8, .int x8)]) : W p l e ({ frames := 7, cells := 0, slots := 0, locals := 157 } : Room) s m args below meth c H locs 0 0 (MQ below (xQi D cy xmb a S' v' s.heap.size) args s 0 0 (xA xmb a s.heap.size)) (F0 m 84 ls []) := by
  have hx := hM.1
  have hb := hM.2.1
  refine lv_iload hx hb dX12_drawn_84 (lv_at hl 7 rfl) ?_
  refine lv_iload hx hb dX12_drawn_86 (lv_at hl 3 rfl) ?_
  refine x_icmp_ge (tgt := 140) hM h dX12_drawn_88 (by decide) (fun c_1 h => ?_) (fun c_1 h => ?_)
  · obtain ⟨q1, h, e1⟩ := xmr_at h
    exact w_X12_drawn_140 hM hr hlk h (fun t0 e => k0 t0 (by rw [e1, e])) (fun S x5 x6 x7 e => k1 S x5 x6 x7 (by rw [e1, e])) hG (lv_sub hl [0, 1, 2, 3, 4, 5, 6] rfl)
  · refine lv_iload hx hb dX12_drawn_91 (lv_at hl 4 rfl) ?_
    refine lv_ldcw (v := (1103515245 : Int32)) hx hb hM.2.2.2.1 (hM.2.2.2.2.1 _ xcn_X12_389) dX12_drawn_93 ?_
    refine x_imul hM h dX12_drawn_96 (fun v_2 h => ?_)
    refine lv_sipush (v := (12345 : Int32)) hx hb dX12_drawn_97 (by decide) ?_
    refine x_iadd hM h dX12_drawn_100 (fun v_3 h => ?_)
    refine lv_istore (lv' := [(5, .int v_3), (0, .ref (a 0)), (2, .int x2), (3, .int x3), (4, .int x4), (6, .int x6), (7, .int x7), (8, .int x8)]) hx hb dX12_drawn_101 hl (by decide) rfl (fun ls hl => ?_)
    refine lv_iload hx hb dX12_drawn_103 (lv_at hl 0 rfl) ?_
    refine lv_bipush (v := (16 : Int32)) hx hb dX12_drawn_105 (by decide) ?_
    refine x_iushr hM h dX12_drawn_107 (fun v_4 h => ?_)
    refine lv_bipush (v := (12 : Int32)) hx hb dX12_drawn_108 (by decide) ?_
    refine x_irem hM h dX12_drawn_110 (fun v_5 h => ?_)
    refine lv_iload_n hx hb dX12_drawn_111 rfl (lv_at hl 2 rfl) ?_
    refine lv_bipush (v := (100 : Int32)) hx hb dX12_drawn_112 (by decide) ?_
    refine x_irem hM h dX12_drawn_114 (fun v_6 h => ?_)
    refine x_icmp_ge (tgt := 130) hM h dX12_drawn_115 (by decide) (fun c_7 h => ?_) (fun c_7 h => ?_)
    · exact w_X12_drawn_130 hM hr hlk h (fun t0 e => k0 t0 e) (fun S x5 x6 x7 e => k1 S x5 x6 x7 e) (fun S x5 x8 e => k2 S x5 x8 e) hG (lv_sub hl [1, 2, 3, 4, 0, 5, 6, 7] rfl)
    · refine lv_aload_n hx hb dX12_drawn_118 rfl (lv_at hl 1 rfl) ?_
      refine lv_iload hx hb dX12_drawn_119 (lv_at hl 0 rfl) ?_
      refine lv_bipush (v := (8 : Int32)) hx hb dX12_drawn_121 (by decide) ?_
      refine x_iushr hM h dX12_drawn_123 (fun v_8 h => ?_)
      refine lv_bipush (v := (6 : Int32)) hx hb dX12_drawn_124 (by decide) ?_
      refine x_irem hM h dX12_drawn_126 (fun v_9 h => ?_)
      refine x_cVv (As := [.int v_9]) (rest := []) hM hG xml_X12_374 xwi_X12_wetNow xws_X12_wetNow xmt_0 (by decide) rfl h (fun S' v e => c_X12_wetNow hM.2.2.2.2.2.2.1 e _) ⟨Nat.le_of_ble_eq_true rfl, Nat.le_of_ble_eq_true rfl⟩ rfl hl.1 rfl (Nat.le_of_ble_eq_true rfl) dX12_drawn_127 (fun S_10 v_11 H locs h hG => ?_)
      exact w_X12_drawn_130 hM hr hlk h (fun t0 e => k0 t0 e) (fun S x5 x6 x7 e => k1 S x5 x6 x7 e) (fun S x5 x8 e => k2 S x5 x8 e) hG (lv_sub hl [1, 2, 3, 4, 0, 5, 6, 7] rfl)
theorem wl_X12_drawn_84 {x2 : Int32} {x3 : Int32} {x4 : Int32} {x6 : Int32} {x7 : Int32} (hM : xM p c cX12_drawn m s args RX12 9 D cy xmb a z) (hr : meth.sig.returnType = (some .int)) (hlk : meth.locks = false) {S' : xSt} {v' : Int32} {q : ((xSt × Int32 × Int32 × Int32) ⊕ (xSt × Int32))} (k0 : ∀ t0 : xSt × Int32, q = (.inr t0) → t0 = (S', v')) (k1 : ∀ (S : xSt) (x5 : Int32) (x6 : Int32) (x7 : Int32), q = (.inl (S, x5, x6, x7)) → ∀ (H : Heap) (locs : List Loc) (ls : Array Slot), xG D cy xmb a S s H locs → lv_has ls 9 [(0, .ref (a 0)), (2, .int x2), (3, .int x3), (4, .int x4), (5, .int x5), (6, .int x6), (7, .int x7)] → W p l e ({ frames := 7, cells := 0, slots := 0, locals := 157 } : Room) s m args below meth c H locs 0 0 (MQ below (xQi D cy xmb a S' v' s.heap.size) args s 0 0 (xA xmb a s.heap.size)) (F0 m 67 ls [])) (n : Nat) : ∀ (S : xSt) (x5 : Int32) (x8 : Int32) (H : Heap) (locs : List Loc) (ls : Array Slot), xlp (fun q : (xSt × Int32 × Int32) => f_X12_drawn_84 x2 x3 x4 x6 x7 q.1 q.2.1 q.2.2) n (S, x5, x8) = some q → xG D cy xmb a S s H locs → lv_has ls 9 [(0, .ref (a 0)), (2, .int x2), (3, .int x3), (4, .int x4), (5, .int x5), (6, .int x6), (7, .int x7), (8, .int x8)] → W p l e ({ frames := 7, cells := 0, slots := 0, locals := 157 } : Room) s m args below meth c H locs 0 0 (MQ below (xQi D cy xmb a S' v' s.heap.size) args s 0 0 (xA xmb a s.heap.size)) (F0 m 84 ls []) := by
  induction n with
  | zero => intro S x5 x8 H locs ls h; exact (xlp_0 h).elim
  | succ n ih =>
    intro S x5 x8 H locs ls h hG hl
    obtain ⟨q1, hq, hc, he⟩ := xlp_at h
    exact w_X12_drawn_84 hM hr hlk (q := q1) hq (fun t0 e => k0 t0 (he _ e).symm) (fun S x5 x6 x7 e => k1 S x5 x6 x7 (he _ e).symm) (fun S x5 x8 e H locs ls hG hl => ih S x5 x8 H locs ls (hc _ e) hG hl) hG hl
set_option maxHeartbeats 4000000 in
set_option maxRecDepth 100000 in
theorem w_X12_drawn_67 {x2 : Int32} {x3 : Int32} {x4 : Int32} {x5 : Int32} {x6 : Int32} {x7 : Int32} (hM : xM p c cX12_drawn m s args RX12 9 D cy xmb a z) (hr : meth.sig.returnType = (some .int)) (hlk : meth.locks = false) {S' : xSt} {v' : Int32} {S : xSt} {q : ((xSt × Int32 × Int32 × Int32) ⊕ (xSt × Int32))} (h : f_X12_drawn_67 x2 x3 x4 S x5 x6 x7 = some q) (k0 : ∀ t0 : xSt × Int32, q = (.inr t0) → t0 = (S', v')) (k1 : ∀ (S : xSt) (x5 : Int32) (x6 : Int32) (x7 : Int32), q = (.inl (S, x5, x6, x7)) → ∀ (H : Heap) (locs : List Loc) (ls : Array Slot), xG D cy xmb a S s H locs → lv_has ls 9 [(0, .ref (a 0)), (2, .int x2), (3, .int x3), (4, .int x4), (5, .int x5), (6, .int x6), (7, .int x7)] → W p l e ({ frames := 7, cells := 0, slots := 0, locals := 157 } : Room) s m args below meth c H locs 0 0 (MQ below (xQi D cy xmb a S' v' s.heap.size) args s 0 0 (xA xmb a s.heap.size)) (F0 m 67 ls [])) {H : Heap} {locs : List Loc} (hG : xG D cy xmb a S s H locs) {ls : Array Slot} (hl : lv_has ls 9 [(0, .ref (a 0)), (2, .int x2), (3, .int x3), (4, .int x4), (5, .int x5), (6, .int x6), (7, .int x7)]) : W p l e ({ frames := 7, cells := 0, slots := 0, locals := 157 } : Room) s m args below meth c H locs 0 0 (MQ below (xQi D cy xmb a S' v' s.heap.size) args s 0 0 (xA xmb a s.heap.size)) (F0 m 67 ls []) := by
  have hx := hM.1
  have hb := hM.2.1
  refine lv_iload hx hb dX12_drawn_67 (lv_at hl 6 rfl) ?_
  refine lv_iload_n hx hb dX12_drawn_69 rfl (lv_at hl 1 rfl) ?_
  refine lv_sipush (v := (10000 : Int32)) hx hb dX12_drawn_70 (by decide) ?_
  refine x_idiv hM h dX12_drawn_73 (fun v_1 h => ?_)
  refine x_icmp_ge (tgt := 175) hM h dX12_drawn_74 (by decide) (fun c_2 h => ?_) (fun c_2 h => ?_)
  · refine lv_iload hx hb dX12_drawn_175 (lv_at hl 5 rfl) ?_
    exact x_ri hM hG hr hlk rfl (k0 _ (Option.some.inj h).symm) dX12_drawn_177
  · refine lv_aload_n hx hb dX12_drawn_77 rfl (lv_at hl 0 rfl) ?_
    refine x_cVv (As := []) (rest := []) hM hG xml_X12_273 xwi_X12_layNow xws_X12_layNow xmt_0 (by decide) rfl h (fun S' v e => c_X12_layNow hM.2.2.2.2.2.2.1 e _) ⟨Nat.le_of_ble_eq_true rfl, Nat.le_of_ble_eq_true rfl⟩ rfl hl.1 rfl (Nat.le_of_ble_eq_true rfl) dX12_drawn_78 (fun S_3 v_4 H locs h hG => ?_)
    refine lv_iconst (v := (0 : Int32)) hx hb dX12_drawn_81 (by decide) ?_
    refine lv_istore (lv' := [(8, .int (0 : Int32)), (0, .ref (a 0)), (2, .int x2), (3, .int x3), (4, .int x4), (5, .int x5), (6, .int x6), (7, .int x7)]) hx hb dX12_drawn_82 hl (by decide) rfl (fun ls hl => ?_)
    exact wl_X12_drawn_84 hM hr hlk (fun t0 e => k0 t0 e) (fun S x5 x6 x7 e => k1 S x5 x6 x7 e) 5000 _ _ _ _ _ _ h hG (lv_sub hl [1, 2, 3, 4, 5, 6, 7, 0] rfl)
theorem wl_X12_drawn_67 {x2 : Int32} {x3 : Int32} {x4 : Int32} (hM : xM p c cX12_drawn m s args RX12 9 D cy xmb a z) (hr : meth.sig.returnType = (some .int)) (hlk : meth.locks = false) {S' : xSt} {v' : Int32} {q : (xSt × Int32)} (k0 : ∀ t0 : xSt × Int32, q = t0 → t0 = (S', v')) (n : Nat) : ∀ (S : xSt) (x5 : Int32) (x6 : Int32) (x7 : Int32) (H : Heap) (locs : List Loc) (ls : Array Slot), xlp (fun q : (xSt × Int32 × Int32 × Int32) => f_X12_drawn_67 x2 x3 x4 q.1 q.2.1 q.2.2.1 q.2.2.2) n (S, x5, x6, x7) = some q → xG D cy xmb a S s H locs → lv_has ls 9 [(0, .ref (a 0)), (2, .int x2), (3, .int x3), (4, .int x4), (5, .int x5), (6, .int x6), (7, .int x7)] → W p l e ({ frames := 7, cells := 0, slots := 0, locals := 157 } : Room) s m args below meth c H locs 0 0 (MQ below (xQi D cy xmb a S' v' s.heap.size) args s 0 0 (xA xmb a s.heap.size)) (F0 m 67 ls []) := by
  induction n with
  | zero => intro S x5 x6 x7 H locs ls h; exact (xlp_0 h).elim
  | succ n ih =>
    intro S x5 x6 x7 H locs ls h hG hl
    obtain ⟨q1, hq, hc, he⟩ := xlp_at h
    exact w_X12_drawn_67 hM hr hlk (q := q1) hq (fun t0 e => k0 t0 (he _ e).symm) (fun S x5 x6 x7 e H locs ls hG hl => ih S x5 x6 x7 H locs ls (hc _ e) hG hl) hG hl
set_option maxHeartbeats 4000000 in
set_option maxRecDepth 100000 in
theorem w_X12_drawn_0 {x1 : Int32} {x2 : Int32} {x3 : Int32} (hM : xM p c cX12_drawn m s args RX12 9 D cy xmb a z) (hr : meth.sig.returnType = (some .int)) (hlk : meth.locks = false) {S' : xSt} {v' : Int32} {S : xSt} {q : (xSt × Int32)} (h : f_X12_drawn_0 x1 x2 x3 S = some q) (k0 : ∀ t0 : xSt × Int32, q = t0 → t0 = (S', v')) {H : Heap} {locs : List Loc} (hG : xG D cy xmb a S s H locs) {ls : Array Slot} (hl : lv_has ls 9 [(0, .ref (a 0)), (1, .int x1), (2, .int x2), (3, .int x3)]) : W p l e ({ frames := 7, cells := 0, slots := 0, locals := 157 } : Room) s m args below meth c H locs 0 0 (MQ below (xQi D cy xmb a S' v' s.heap.size) args s 0 0 (xA xmb a s.heap.size)) (F0 m 0 ls []) := by
  have hx := hM.1
  have hb := hM.2.1
  refine lv_iload_n hx hb dX12_drawn_0 rfl (lv_at hl 2 rfl) ?_
  refine lv_bipush (v := (100 : Int32)) hx hb dX12_drawn_1 (by decide) ?_
  refine x_idiv hM h dX12_drawn_3 (fun v_1 h => ?_)
  refine lv_bipush (v := (100 : Int32)) hx hb dX12_drawn_4 (by decide) ?_
  refine x_irem hM h dX12_drawn_6 (fun v_2 h => ?_)
  refine lv_istore (lv' := [(4, .int v_2), (0, .ref (a 0)), (1, .int x1), (2, .int x2), (3, .int x3)]) hx hb dX12_drawn_7 hl (by decide) rfl (fun ls hl => ?_)
  refine lv_iload_n hx hb dX12_drawn_9 rfl (lv_at hl 3 rfl) ?_
  refine x_if_lt (tgt := 56) hM h dX12_drawn_10 (by decide) (fun c_3 h => ?_) (fun c_3 h => ?_)
  · refine lv_iconst (v := (-1 : Int32)) hx hb dX12_drawn_56 (by decide) ?_
    exact x_ri hM hG hr hlk rfl (k0 _ (Option.some.inj h).symm) dX12_drawn_57
  · refine lv_iload_n hx hb dX12_drawn_13 rfl (lv_at hl 3 rfl) ?_
    refine lv_sipush (v := (10000 : Int32)) hx hb dX12_drawn_14 (by decide) ?_
    refine x_idiv hM h dX12_drawn_17 (fun v_4 h => ?_)
    refine lv_iconst (v := (1 : Int32)) hx hb dX12_drawn_18 (by decide) ?_
    refine lv_bipush (v := (30 : Int32)) hx hb dX12_drawn_19 (by decide) ?_
    refine x_cSi (As := [.int v_4, .int (1 : Int32), .int (30 : Int32)]) (rest := []) hM hG xml_X12_142 xwt_X12_in h (fun S' v e => c_X12_in hM.2.2.2.2.2.2.1 e _) ⟨Nat.le_of_ble_eq_true rfl, Nat.le_of_ble_eq_true rfl⟩ rfl hl.1 rfl (Nat.le_of_ble_eq_true rfl) dX12_drawn_21 (fun S_5 v_6 H locs h hG => ?_)
    refine x_if_eq (tgt := 56) hM h dX12_drawn_24 (by decide) (fun c_7 h => ?_) (fun c_7 h => ?_)
    · refine lv_iconst (v := (-1 : Int32)) hx hb dX12_drawn_56 (by decide) ?_
      exact x_ri hM hG hr hlk rfl (k0 _ (Option.some.inj h).symm) dX12_drawn_57
    · refine lv_iload hx hb dX12_drawn_27 (lv_at hl 0 rfl) ?_
      refine lv_iconst (v := (1 : Int32)) hx hb dX12_drawn_29 (by decide) ?_
      refine lv_bipush (v := (30 : Int32)) hx hb dX12_drawn_30 (by decide) ?_
      refine x_cSi (As := [.int v_2, .int (1 : Int32), .int (30 : Int32)]) (rest := []) hM hG xml_X12_142 xwt_X12_in h (fun S' v e => c_X12_in hM.2.2.2.2.2.2.1 e _) ⟨Nat.le_of_ble_eq_true rfl, Nat.le_of_ble_eq_true rfl⟩ rfl hl.1 rfl (Nat.le_of_ble_eq_true rfl) dX12_drawn_32 (fun S_8 v_9 H locs h hG => ?_)
      refine x_if_eq (tgt := 56) hM h dX12_drawn_35 (by decide) (fun c_10 h => ?_) (fun c_10 h => ?_)
      · refine lv_iconst (v := (-1 : Int32)) hx hb dX12_drawn_56 (by decide) ?_
        exact x_ri hM hG hr hlk rfl (k0 _ (Option.some.inj h).symm) dX12_drawn_57
      · refine lv_iload_n hx hb dX12_drawn_38 rfl (lv_at hl 3 rfl) ?_
        refine lv_bipush (v := (100 : Int32)) hx hb dX12_drawn_39 (by decide) ?_
        refine x_irem hM h dX12_drawn_41 (fun v_11 h => ?_)
        refine lv_bipush (v := (12 : Int32)) hx hb dX12_drawn_42 (by decide) ?_
        refine x_icmp_gt (tgt := 56) hM h dX12_drawn_44 (by decide) (fun c_12 h => ?_) (fun c_12 h => ?_)
        · refine lv_iconst (v := (-1 : Int32)) hx hb dX12_drawn_56 (by decide) ?_
          exact x_ri hM hG hr hlk rfl (k0 _ (Option.some.inj h).symm) dX12_drawn_57
        · refine lv_iload_n hx hb dX12_drawn_47 rfl (lv_at hl 4 rfl) ?_
          refine lv_iconst (v := (0 : Int32)) hx hb dX12_drawn_48 (by decide) ?_
          refine lv_iconst (v := (1 : Int32)) hx hb dX12_drawn_49 (by decide) ?_
          refine x_cSi (As := [.int x3, .int (0 : Int32), .int (1 : Int32)]) (rest := []) hM hG xml_X12_142 xwt_X12_in h (fun S' v e => c_X12_in hM.2.2.2.2.2.2.1 e _) ⟨Nat.le_of_ble_eq_true rfl, Nat.le_of_ble_eq_true rfl⟩ rfl hl.1 rfl (Nat.le_of_ble_eq_true rfl) dX12_drawn_50 (fun S_13 v_14 H locs h hG => ?_)
          refine x_if_ne (tgt := 58) hM h dX12_drawn_53 (by decide) (fun c_15 h => ?_) (fun c_15 h => ?_)
          · refine lv_iload_n hx hb dX12_drawn_58 rfl (lv_at hl 2 rfl) ?_
            refine lv_istore (lv' := [(5, .int x1), (4, .int v_2), (0, .ref (a 0)), (1, .int x1), (2, .int x2), (3, .int x3)]) hx hb dX12_drawn_59 hl (by decide) rfl (fun ls hl => ?_)
            refine lv_iconst (v := (0 : Int32)) hx hb dX12_drawn_61 (by decide) ?_
            refine lv_istore (lv' := [(6, .int (0 : Int32)), (5, .int x1), (4, .int v_2), (0, .ref (a 0)), (1, .int x1), (2, .int x2), (3, .int x3)]) hx hb dX12_drawn_62 hl (by decide) rfl (fun ls hl => ?_)
            refine lv_iconst (v := (0 : Int32)) hx hb dX12_drawn_64 (by decide) ?_
            refine lv_istore (lv' := [(7, .int (0 : Int32)), (6, .int (0 : Int32)), (5, .int x1), (4, .int v_2), (0, .ref (a 0)), (1, .int x1), (2, .int x2), (3, .int x3)]) hx hb dX12_drawn_65 hl (by decide) rfl (fun ls hl => ?_)
            exact wl_X12_drawn_67 hM hr hlk (fun t0 e => k0 t0 e) 5000 _ _ _ _ _ _ _ h hG (lv_sub hl [4, 6, 7, 3, 2, 1, 0] rfl)
          · refine lv_iconst (v := (-1 : Int32)) hx hb dX12_drawn_56 (by decide) ?_
            exact x_ri hM hG hr hlk rfl (k0 _ (Option.some.inj h).symm) dX12_drawn_57
set_option maxHeartbeats 4000000 in
set_option maxRecDepth 100000 in
theorem c_X12_drawn {l : Launch} {D : va_G} {cy : Nat → ClassId} {a z : Nat → Nat} (hI : xI xmb a) {S : xSt} {x1 : Int32} {x2 : Int32} {x3 : Int32} {S' : xSt} {v' : Int32} (hf : f_X12_drawn S x1 x2 x3 = some (S', v')) (sz : Nat) : Met l yX12_drawn (Cond.code yX12_drawn cX12_drawn 9 (some .int) :: xTB) ({ frames := 7, cells := 0, slots := 0, locals := 157 } : Room) (va_Pc [.ref (a 0), .int x1, .int x2, .int x3] (xPre D cy xmb a z S sz)) (xQi D cy xmb a S' v' sz) 0 0 (xA xmb a sz) := by
  refine Met.ofW (cc := cX12_drawn) (maxL := 9) (ret := (some .int)) (by decide) rfl ?_
  intro p e s m args below meth c s₁ B hml hv
  obtain ⟨rfl, hsz, hP, hK, hE⟩ := hv
  subst hsz
  have hl := lv_entry ([.ref (a 0), .int x1, .int x2, .int x3]) (n := 9) (Nat.le_of_ble_eq_true rfl)
  rw [lg_entry_eq]
  generalize (lg_sl ([.ref (a 0), .int x1, .int x2, .int x3]) ++ List.replicate (9 - (lg_sl ([.ref (a 0), .int x1, .int x2, .int x3])).length) Slot.unset).toArray = ls at hl ⊢
  have hl : lv_has ls 9 [(0, .ref (a 0)), (1, .int x1), (2, .int x2), (3, .int x3)] := hl
  exact w_X12_drawn_0 ⟨B.exec, B.bytes, hml, findClass_of_methodNamed B.named, fun w hw => atoms_spec (ws := Cond.code yX12_drawn cX12_drawn 9 (some .int) :: xTB) B.pre w (List.mem_cons_of_mem _ hw), hK, hI, hE⟩ B.returns B.notSynchronized hf (fun t0 e => e.symm) ⟨hP, va_S.rf⟩ (lv_sub hl [0, 1, 2, 3] rfl)
set_option maxHeartbeats 4000000 in
set_option maxRecDepth 100000 in
theorem w_X12_layBack_2 {x1 : Int32} (hM : xM p c cX12_layBack m s args RX12 2 D cy xmb a z) (hr : meth.sig.returnType = none) (hlk : meth.locks = false) {S' : xSt} {v' : Unit} {S : xSt} {q : ((xSt × Int32) ⊕ (xSt × Unit))} (h : f_X12_layBack_2 S x1 = some q) (k0 : ∀ t0 : xSt × Unit, q = (.inr t0) → t0 = (S', v')) (k1 : ∀ (S : xSt) (x1 : Int32), q = (.inl (S, x1)) → ∀ (H : Heap) (locs : List Loc) (ls : Array Slot), xG D cy xmb a S s H locs → lv_has ls 2 [(0, .ref (a 0)), (1, .int x1)] → W p l e ({ frames := 0, cells := 0, slots := 0, locals := 0 } : Room) s m args below meth c H locs 0 0 (MQ below (xQv D cy xmb a S' v' s.heap.size) args s 0 0 (xA xmb a s.heap.size)) (F0 m 2 ls [])) {H : Heap} {locs : List Loc} (hG : xG D cy xmb a S s H locs) {ls : Array Slot} (hl : lv_has ls 2 [(0, .ref (a 0)), (1, .int x1)]) : W p l e ({ frames := 0, cells := 0, slots := 0, locals := 0 } : Room) s m args below meth c H locs 0 0 (MQ below (xQv D cy xmb a S' v' s.heap.size) args s 0 0 (xA xmb a s.heap.size)) (F0 m 2 ls []) := by
  have hx := hM.1
  have hb := hM.2.1
  refine lv_iload_n hx hb dX12_layBack_2 rfl (lv_at hl 1 rfl) ?_
  refine lv_bipush (v := (30 : Int32)) hx hb dX12_layBack_3 (by decide) ?_
  refine x_icmp_ge (tgt := 50) hM h dX12_layBack_5 (by decide) (fun c_1 h => ?_) (fun c_1 h => ?_)
  · exact x_rv hM hG hr hlk (k0 _ (Option.some.inj h).symm) dX12_layBack_50
  · refine lv_aload_n hx hb dX12_layBack_8 rfl (lv_at hl 0 rfl) ?_
    refine x_gr (r := 2) hM hG xfl_X12_15 xmt_0 (by decide) rfl dX12_layBack_9 ?_
    refine lv_iload_n hx hb dX12_layBack_12 rfl (lv_at hl 1 rfl) ?_
    refine lv_aload_n hx hb dX12_layBack_13 rfl (lv_at hl 0 rfl) ?_
    refine x_gr (r := 23) hM hG xfl_X12_80 xmt_0 (by decide) rfl dX12_layBack_14 ?_
    refine lv_iload_n hx hb dX12_layBack_17 rfl (lv_at hl 1 rfl) ?_
    refine x_iald hM hG xmt_23 h dX12_layBack_18 (fun v_2 h => ?_)
    refine x_iast hM hG xmt_2 h dX12_layBack_19 (fun S_3 H locs h hG => ?_)
    refine lv_aload_n hx hb dX12_layBack_20 rfl (lv_at hl 0 rfl) ?_
    refine x_gr (r := 3) hM hG xfl_X12_18 xmt_0 (by decide) rfl dX12_layBack_21 ?_
    refine lv_iload_n hx hb dX12_layBack_24 rfl (lv_at hl 1 rfl) ?_
    refine lv_aload_n hx hb dX12_layBack_25 rfl (lv_at hl 0 rfl) ?_
    refine x_gr (r := 24) hM hG xfl_X12_83 xmt_0 (by decide) rfl dX12_layBack_26 ?_
    refine lv_iload_n hx hb dX12_layBack_29 rfl (lv_at hl 1 rfl) ?_
    refine x_iald hM hG xmt_24 h dX12_layBack_30 (fun v_4 h => ?_)
    refine x_iast hM hG xmt_3 h dX12_layBack_31 (fun S_5 H locs h hG => ?_)
    refine lv_aload_n hx hb dX12_layBack_32 rfl (lv_at hl 0 rfl) ?_
    refine x_gr (r := 4) hM hG xfl_X12_21 xmt_0 (by decide) rfl dX12_layBack_33 ?_
    refine lv_iload_n hx hb dX12_layBack_36 rfl (lv_at hl 1 rfl) ?_
    refine lv_aload_n hx hb dX12_layBack_37 rfl (lv_at hl 0 rfl) ?_
    refine x_gr (r := 25) hM hG xfl_X12_86 xmt_0 (by decide) rfl dX12_layBack_38 ?_
    refine lv_iload_n hx hb dX12_layBack_41 rfl (lv_at hl 1 rfl) ?_
    refine x_iald hM hG xmt_25 h dX12_layBack_42 (fun v_6 h => ?_)
    refine x_iast hM hG xmt_4 h dX12_layBack_43 (fun S_7 H locs h hG => ?_)
    refine x_iinc hM (fun v => [(1, .int v), (0, .ref (a 0))]) h dX12_layBack_44 hl (k := 1) rfl (by decide) (by decide) (fun _ => rfl) (fun v_8 ls h hl => ?_)
    refine lv_goto (tgt := 2) hx hb dX12_layBack_47 (by decide) ?_
    exact k1 _ _ (Option.some.inj h).symm _ _ _ hG (lv_sub hl [1, 0] rfl)
theorem wl_X12_layBack_2 (hM : xM p c cX12_layBack m s args RX12 2 D cy xmb a z) (hr : meth.sig.returnType = none) (hlk : meth.locks = false) {S' : xSt} {v' : Unit} {q : (xSt × Unit)} (k0 : ∀ t0 : xSt × Unit, q = t0 → t0 = (S', v')) (n : Nat) : ∀ (S : xSt) (x1 : Int32) (H : Heap) (locs : List Loc) (ls : Array Slot), xlp (fun q : (xSt × Int32) => f_X12_layBack_2 q.1 q.2) n (S, x1) = some q → xG D cy xmb a S s H locs → lv_has ls 2 [(0, .ref (a 0)), (1, .int x1)] → W p l e ({ frames := 0, cells := 0, slots := 0, locals := 0 } : Room) s m args below meth c H locs 0 0 (MQ below (xQv D cy xmb a S' v' s.heap.size) args s 0 0 (xA xmb a s.heap.size)) (F0 m 2 ls []) := by
  induction n with
  | zero => intro S x1 H locs ls h; exact (xlp_0 h).elim
  | succ n ih =>
    intro S x1 H locs ls h hG hl
    obtain ⟨q1, hq, hc, he⟩ := xlp_at h
    exact w_X12_layBack_2 hM hr hlk (q := q1) hq (fun t0 e => k0 t0 (he _ e).symm) (fun S x1 e H locs ls hG hl => ih S x1 H locs ls (hc _ e) hG hl) hG hl
set_option maxHeartbeats 4000000 in
set_option maxRecDepth 100000 in
theorem w_X12_layBack_0 (hM : xM p c cX12_layBack m s args RX12 2 D cy xmb a z) (hr : meth.sig.returnType = none) (hlk : meth.locks = false) {S' : xSt} {v' : Unit} {S : xSt} {q : (xSt × Unit)} (h : f_X12_layBack_0 S = some q) (k0 : ∀ t0 : xSt × Unit, q = t0 → t0 = (S', v')) {H : Heap} {locs : List Loc} (hG : xG D cy xmb a S s H locs) {ls : Array Slot} (hl : lv_has ls 2 [(0, .ref (a 0))]) : W p l e ({ frames := 0, cells := 0, slots := 0, locals := 0 } : Room) s m args below meth c H locs 0 0 (MQ below (xQv D cy xmb a S' v' s.heap.size) args s 0 0 (xA xmb a s.heap.size)) (F0 m 0 ls []) := by
  have hx := hM.1
  have hb := hM.2.1
  refine lv_iconst (v := (0 : Int32)) hx hb dX12_layBack_0 (by decide) ?_
  refine lv_istore_n (lv' := [(1, .int (0 : Int32)), (0, .ref (a 0))]) hx hb dX12_layBack_1 rfl hl (by decide) rfl (fun ls hl => ?_)
  exact wl_X12_layBack_2 hM hr hlk (fun t0 e => k0 t0 e) 5000 _ _ _ _ _ h hG (lv_sub hl [1, 0] rfl)
set_option maxHeartbeats 4000000 in
set_option maxRecDepth 100000 in
theorem c_X12_layBack {l : Launch} {D : va_G} {cy : Nat → ClassId} {a z : Nat → Nat} (hI : xI xmb a) {S : xSt} {S' : xSt} {v' : Unit} (hf : f_X12_layBack S = some (S', v')) (sz : Nat) : Met l yX12_layBack (Cond.code yX12_layBack cX12_layBack 2 none :: xTB) ({ frames := 0, cells := 0, slots := 0, locals := 0 } : Room) (va_Pc [.ref (a 0)] (xPre D cy xmb a z S sz)) (xQv D cy xmb a S' v' sz) 0 0 (xA xmb a sz) := by
  refine Met.ofW (cc := cX12_layBack) (maxL := 2) (ret := none) (by decide) rfl ?_
  intro p e s m args below meth c s₁ B hml hv
  obtain ⟨rfl, hsz, hP, hK, hE⟩ := hv
  subst hsz
  have hl := lv_entry ([.ref (a 0)]) (n := 2) (Nat.le_of_ble_eq_true rfl)
  rw [lg_entry_eq]
  generalize (lg_sl ([.ref (a 0)]) ++ List.replicate (2 - (lg_sl ([.ref (a 0)])).length) Slot.unset).toArray = ls at hl ⊢
  have hl : lv_has ls 2 [(0, .ref (a 0))] := hl
  exact w_X12_layBack_0 ⟨B.exec, B.bytes, hml, findClass_of_methodNamed B.named, fun w hw => atoms_spec (ws := Cond.code yX12_layBack cX12_layBack 2 none :: xTB) B.pre w (List.mem_cons_of_mem _ hw), hK, hI, hE⟩ B.returns B.notSynchronized hf (fun t0 e => e.symm) ⟨hP, va_S.rf⟩ (lv_sub hl [0] rfl)
set_option maxHeartbeats 4000000 in
set_option maxRecDepth 100000 in
theorem w_X12_turned_0 {x1 : Int32} (hM : xM p c cX12_turned m s args RX12 2 D cy xmb a z) (hr : meth.sig.returnType = (some .int)) (hlk : meth.locks = false) {S' : xSt} {v' : Int32} {S : xSt} {q : (xSt × Int32)} (h : f_X12_turned_0 x1 S = some q) (k0 : ∀ t0 : xSt × Int32, q = t0 → t0 = (S', v')) {H : Heap} {locs : List Loc} (hG : xG D cy xmb a S s H locs) {ls : Array Slot} (hl : lv_has ls 2 [(0, .ref (a 0)), (1, .int x1)]) : W p l e ({ frames := 2, cells := 0, slots := 0, locals := 42 } : Room) s m args below meth c H locs 0 0 (MQ below (xQi D cy xmb a S' v' s.heap.size) args s 0 0 (xA xmb a s.heap.size)) (F0 m 0 ls []) := by
  have hx := hM.1
  have hb := hM.2.1
  refine lv_iload_n hx hb dX12_turned_0 rfl (lv_at hl 1 rfl) ?_
  refine x_cSi (As := [.int x1]) (rest := []) hM hG xml_X12_146 xwt_X12_isColumn h (fun S' v e => c_X12_isColumn hM.2.2.2.2.2.2.1 e _) ⟨Nat.le_of_ble_eq_true rfl, Nat.le_of_ble_eq_true rfl⟩ rfl hl.1 rfl (Nat.le_of_ble_eq_true rfl) dX12_turned_1 (fun S_1 v_2 H locs h hG => ?_)
  refine x_if_ne (tgt := 9) hM h dX12_turned_4 (by decide) (fun c_3 h => ?_) (fun c_3 h => ?_)
  · refine lv_aload_n hx hb dX12_turned_9 rfl (lv_at hl 0 rfl) ?_
    refine x_cVv (As := []) (rest := []) hM hG xml_X12_273 xwi_X12_layNow xws_X12_layNow xmt_0 (by decide) rfl h (fun S' v e => c_X12_layNow hM.2.2.2.2.2.2.1 e _) ⟨Nat.le_of_ble_eq_true rfl, Nat.le_of_ble_eq_true rfl⟩ rfl hl.1 rfl (Nat.le_of_ble_eq_true rfl) dX12_turned_10 (fun S_4 v_5 H locs h hG => ?_)
    refine lv_aload_n hx hb dX12_turned_13 rfl (lv_at hl 0 rfl) ?_
    refine lv_iload_n hx hb dX12_turned_14 rfl (lv_at hl 1 rfl) ?_
    refine x_cVv (As := [.int x1]) (rest := []) hM hG xml_X12_331 xwi_X12_turnNow xws_X12_turnNow xmt_0 (by decide) rfl h (fun S' v e => c_X12_turnNow hM.2.2.2.2.2.2.1 e _) ⟨Nat.le_of_ble_eq_true rfl, Nat.le_of_ble_eq_true rfl⟩ rfl hl.1 rfl (Nat.le_of_ble_eq_true rfl) dX12_turned_15 (fun S_6 v_7 H locs h hG => ?_)
    refine lv_aload_n hx hb dX12_turned_18 rfl (lv_at hl 0 rfl) ?_
    refine x_cVv (As := []) (rest := []) hM hG xml_X12_390 xwi_X12_layBack xws_X12_layBack xmt_0 (by decide) rfl h (fun S' v e => c_X12_layBack hM.2.2.2.2.2.2.1 e _) ⟨Nat.le_of_ble_eq_true rfl, Nat.le_of_ble_eq_true rfl⟩ rfl hl.1 rfl (Nat.le_of_ble_eq_true rfl) dX12_turned_19 (fun S_8 v_9 H locs h hG => ?_)
    refine lv_aload_n hx hb dX12_turned_22 rfl (lv_at hl 0 rfl) ?_
    refine x_gr (r := 9) hM hG xfl_X12_36 xmt_0 (by decide) rfl dX12_turned_23 ?_
    refine lv_iconst (v := (1 : Int32)) hx hb dX12_turned_26 (by decide) ?_
    refine lv_dup2_11 hx hb dX12_turned_27 rfl rfl ?_
    refine x_iald hM hG xmt_9 h dX12_turned_28 (fun v_10 h => ?_)
    refine lv_iconst (v := (1 : Int32)) hx hb dX12_turned_29 (by decide) ?_
    refine x_iadd hM h dX12_turned_30 (fun v_11 h => ?_)
    refine x_iast hM hG xmt_9 h dX12_turned_31 (fun S_12 H locs h hG => ?_)
    refine lv_aload_n hx hb dX12_turned_32 rfl (lv_at hl 0 rfl) ?_
    refine x_gr (r := 1) hM hG xfl_X12_9 xmt_0 (by decide) rfl dX12_turned_33 ?_
    refine lv_iload_n hx hb dX12_turned_36 rfl (lv_at hl 1 rfl) ?_
    refine x_iald hM hG xmt_1 h dX12_turned_37 (fun v_13 h => ?_)
    exact x_ri hM hG hr hlk rfl (k0 _ (Option.some.inj h).symm) dX12_turned_38
  · refine lv_iconst (v := (-1 : Int32)) hx hb dX12_turned_7 (by decide) ?_
    exact x_ri hM hG hr hlk rfl (k0 _ (Option.some.inj h).symm) dX12_turned_8
set_option maxHeartbeats 4000000 in
set_option maxRecDepth 100000 in
theorem c_X12_turned {l : Launch} {D : va_G} {cy : Nat → ClassId} {a z : Nat → Nat} (hI : xI xmb a) {S : xSt} {x1 : Int32} {S' : xSt} {v' : Int32} (hf : f_X12_turned S x1 = some (S', v')) (sz : Nat) : Met l yX12_turned (Cond.code yX12_turned cX12_turned 2 (some .int) :: xTB) ({ frames := 2, cells := 0, slots := 0, locals := 42 } : Room) (va_Pc [.ref (a 0), .int x1] (xPre D cy xmb a z S sz)) (xQi D cy xmb a S' v' sz) 0 0 (xA xmb a sz) := by
  refine Met.ofW (cc := cX12_turned) (maxL := 2) (ret := (some .int)) (by decide) rfl ?_
  intro p e s m args below meth c s₁ B hml hv
  obtain ⟨rfl, hsz, hP, hK, hE⟩ := hv
  subst hsz
  have hl := lv_entry ([.ref (a 0), .int x1]) (n := 2) (Nat.le_of_ble_eq_true rfl)
  rw [lg_entry_eq]
  generalize (lg_sl ([.ref (a 0), .int x1]) ++ List.replicate (2 - (lg_sl ([.ref (a 0), .int x1])).length) Slot.unset).toArray = ls at hl ⊢
  have hl : lv_has ls 2 [(0, .ref (a 0)), (1, .int x1)] := hl
  exact w_X12_turned_0 ⟨B.exec, B.bytes, hml, findClass_of_methodNamed B.named, fun w hw => atoms_spec (ws := Cond.code yX12_turned cX12_turned 2 (some .int) :: xTB) B.pre w (List.mem_cons_of_mem _ hw), hK, hI, hE⟩ B.returns B.notSynchronized hf (fun t0 e => e.symm) ⟨hP, va_S.rf⟩ (lv_sub hl [0, 1] rfl)
set_option maxHeartbeats 4000000 in
set_option maxRecDepth 100000 in
theorem w_X12_salt_40 {x1 : Int32} (hM : xM p c cX12_salt m s args RX12 3 D cy xmb a z) (hr : meth.sig.returnType = (some .int)) (hlk : meth.locks = false) {S' : xSt} {v' : Int32} {S : xSt} {q : (xSt × Int32)} (h : f_X12_salt_40 x1 S = some q) (k0 : ∀ t0 : xSt × Int32, q = t0 → t0 = (S', v')) {H : Heap} {locs : List Loc} (hG : xG D cy xmb a S s H locs) {ls : Array Slot} (hl : lv_has ls 3 [(0, .ref (a 0)), (1, .int x1)]) : W p l e ({ frames := 2, cells := 0, slots := 0, locals := 42 } : Room) s m args below meth c H locs 0 0 (MQ below (xQi D cy xmb a S' v' s.heap.size) args s 0 0 (xA xmb a s.heap.size)) (F0 m 40 ls []) := by
  have hx := hM.1
  have hb := hM.2.1
  refine lv_aload_n hx hb dX12_salt_40 rfl (lv_at hl 0 rfl) ?_
  refine x_gr (r := 9) hM hG xfl_X12_36 xmt_0 (by decide) rfl dX12_salt_41 ?_
  refine lv_iconst (v := (2 : Int32)) hx hb dX12_salt_44 (by decide) ?_
  refine lv_dup2_11 hx hb dX12_salt_45 rfl rfl ?_
  refine x_iald hM hG xmt_9 h dX12_salt_46 (fun v_1 h => ?_)
  refine lv_iconst (v := (1 : Int32)) hx hb dX12_salt_47 (by decide) ?_
  refine x_iadd hM h dX12_salt_48 (fun v_2 h => ?_)
  refine x_iast hM hG xmt_9 h dX12_salt_49 (fun S_3 H locs h hG => ?_)
  refine lv_aload_n hx hb dX12_salt_50 rfl (lv_at hl 0 rfl) ?_
  refine x_gr (r := 1) hM hG xfl_X12_9 xmt_0 (by decide) rfl dX12_salt_51 ?_
  refine lv_iload_n hx hb dX12_salt_54 rfl (lv_at hl 1 rfl) ?_
  refine x_iald hM hG xmt_1 h dX12_salt_55 (fun v_4 h => ?_)
  exact x_ri hM hG hr hlk rfl (k0 _ (Option.some.inj h).symm) dX12_salt_56
set_option maxHeartbeats 4000000 in
set_option maxRecDepth 100000 in
theorem w_X12_salt_13 {x1 : Int32} {x2 : Int32} (hM : xM p c cX12_salt m s args RX12 3 D cy xmb a z) (hr : meth.sig.returnType = (some .int)) (hlk : meth.locks = false) {S' : xSt} {v' : Int32} {S : xSt} {q : ((xSt × Int32) ⊕ (xSt × Int32))} (h : f_X12_salt_13 x1 S x2 = some q) (k0 : ∀ t0 : xSt × Int32, q = (.inr t0) → t0 = (S', v')) (k1 : ∀ (S : xSt) (x2 : Int32), q = (.inl (S, x2)) → ∀ (H : Heap) (locs : List Loc) (ls : Array Slot), xG D cy xmb a S s H locs → lv_has ls 3 [(0, .ref (a 0)), (1, .int x1), (2, .int x2)] → W p l e ({ frames := 2, cells := 0, slots := 0, locals := 42 } : Room) s m args below meth c H locs 0 0 (MQ below (xQi D cy xmb a S' v' s.heap.size) args s 0 0 (xA xmb a s.heap.size)) (F0 m 13 ls [])) {H : Heap} {locs : List Loc} (hG : xG D cy xmb a S s H locs) {ls : Array Slot} (hl : lv_has ls 3 [(0, .ref (a 0)), (1, .int x1), (2, .int x2)]) : W p l e ({ frames := 2, cells := 0, slots := 0, locals := 42 } : Room) s m args below meth c H locs 0 0 (MQ below (xQi D cy xmb a S' v' s.heap.size) args s 0 0 (xA xmb a s.heap.size)) (F0 m 13 ls []) := by
  have hx := hM.1
  have hb := hM.2.1
  refine lv_iload_n hx hb dX12_salt_13 rfl (lv_at hl 2 rfl) ?_
  refine lv_iconst (v := (5 : Int32)) hx hb dX12_salt_14 (by decide) ?_
  refine lv_iload_n hx hb dX12_salt_15 rfl (lv_at hl 1 rfl) ?_
  refine x_imul hM h dX12_salt_16 (fun v_1 h => ?_)
  refine lv_aload_n hx hb dX12_salt_17 rfl (lv_at hl 0 rfl) ?_
  refine x_gr (r := 1) hM hG xfl_X12_9 xmt_0 (by decide) rfl dX12_salt_18 ?_
  refine lv_iload_n hx hb dX12_salt_21 rfl (lv_at hl 1 rfl) ?_
  refine x_iald hM hG xmt_1 h dX12_salt_22 (fun v_2 h => ?_)
  refine x_iadd hM h dX12_salt_23 (fun v_3 h => ?_)
  refine x_icmp_ge (tgt := 40) hM h dX12_salt_24 (by decide) (fun c_4 h => ?_) (fun c_4 h => ?_)
  · obtain ⟨q1, h, e1⟩ := xmr_at h
    exact w_X12_salt_40 hM hr hlk h (fun t0 e => k0 t0 (by rw [e1, e])) hG (lv_sub hl [0, 1] rfl)
  · refine lv_aload_n hx hb dX12_salt_27 rfl (lv_at hl 0 rfl) ?_
    refine x_gr (r := 5) hM hG xfl_X12_24 xmt_0 (by decide) rfl dX12_salt_28 ?_
    refine lv_iload_n hx hb dX12_salt_31 rfl (lv_at hl 2 rfl) ?_
    refine lv_iconst (v := (1 : Int32)) hx hb dX12_salt_32 (by decide) ?_
    refine x_iast hM hG xmt_5 h dX12_salt_33 (fun S_5 H locs h hG => ?_)
    refine x_iinc hM (fun v => [(2, .int v), (0, .ref (a 0)), (1, .int x1)]) h dX12_salt_34 hl (k := 2) rfl (by decide) (by decide) (fun _ => rfl) (fun v_6 ls h hl => ?_)
    refine lv_goto (tgt := 13) hx hb dX12_salt_37 (by decide) ?_
    exact k1 _ _ (Option.some.inj h).symm _ _ _ hG (lv_sub hl [1, 2, 0] rfl)
theorem wl_X12_salt_13 {x1 : Int32} (hM : xM p c cX12_salt m s args RX12 3 D cy xmb a z) (hr : meth.sig.returnType = (some .int)) (hlk : meth.locks = false) {S' : xSt} {v' : Int32} {q : (xSt × Int32)} (k0 : ∀ t0 : xSt × Int32, q = t0 → t0 = (S', v')) (n : Nat) : ∀ (S : xSt) (x2 : Int32) (H : Heap) (locs : List Loc) (ls : Array Slot), xlp (fun q : (xSt × Int32) => f_X12_salt_13 x1 q.1 q.2) n (S, x2) = some q → xG D cy xmb a S s H locs → lv_has ls 3 [(0, .ref (a 0)), (1, .int x1), (2, .int x2)] → W p l e ({ frames := 2, cells := 0, slots := 0, locals := 42 } : Room) s m args below meth c H locs 0 0 (MQ below (xQi D cy xmb a S' v' s.heap.size) args s 0 0 (xA xmb a s.heap.size)) (F0 m 13 ls []) := by
  induction n with
  | zero => intro S x2 H locs ls h; exact (xlp_0 h).elim
  | succ n ih =>
    intro S x2 H locs ls h hG hl
    obtain ⟨q1, hq, hc, he⟩ := xlp_at h
    exact w_X12_salt_13 hM hr hlk (q := q1) hq (fun t0 e => k0 t0 (he _ e).symm) (fun S x2 e H locs ls hG hl => ih S x2 H locs ls (hc _ e) hG hl) hG hl
set_option maxHeartbeats 4000000 in
set_option maxRecDepth 100000 in
theorem w_X12_salt_0 {x1 : Int32} (hM : xM p c cX12_salt m s args RX12 3 D cy xmb a z) (hr : meth.sig.returnType = (some .int)) (hlk : meth.locks = false) {S' : xSt} {v' : Int32} {S : xSt} {q : (xSt × Int32)} (h : f_X12_salt_0 x1 S = some q) (k0 : ∀ t0 : xSt × Int32, q = t0 → t0 = (S', v')) {H : Heap} {locs : List Loc} (hG : xG D cy xmb a S s H locs) {ls : Array Slot} (hl : lv_has ls 3 [(0, .ref (a 0)), (1, .int x1)]) : W p l e ({ frames := 2, cells := 0, slots := 0, locals := 42 } : Room) s m args below meth c H locs 0 0 (MQ below (xQi D cy xmb a S' v' s.heap.size) args s 0 0 (xA xmb a s.heap.size)) (F0 m 0 ls []) := by
  have hx := hM.1
  have hb := hM.2.1
  refine lv_iload_n hx hb dX12_salt_0 rfl (lv_at hl 1 rfl) ?_
  refine x_cSi (As := [.int x1]) (rest := []) hM hG xml_X12_146 xwt_X12_isColumn h (fun S' v e => c_X12_isColumn hM.2.2.2.2.2.2.1 e _) ⟨Nat.le_of_ble_eq_true rfl, Nat.le_of_ble_eq_true rfl⟩ rfl hl.1 rfl (Nat.le_of_ble_eq_true rfl) dX12_salt_1 (fun S_1 v_2 H locs h hG => ?_)
  refine x_if_ne (tgt := 9) hM h dX12_salt_4 (by decide) (fun c_3 h => ?_) (fun c_3 h => ?_)
  · refine lv_iconst (v := (5 : Int32)) hx hb dX12_salt_9 (by decide) ?_
    refine lv_iload_n hx hb dX12_salt_10 rfl (lv_at hl 1 rfl) ?_
    refine x_imul hM h dX12_salt_11 (fun v_4 h => ?_)
    refine lv_istore_n (lv' := [(2, .int v_4), (0, .ref (a 0)), (1, .int x1)]) hx hb dX12_salt_12 rfl hl (by decide) rfl (fun ls hl => ?_)
    exact wl_X12_salt_13 hM hr hlk (fun t0 e => k0 t0 e) 5000 _ _ _ _ _ h hG (lv_sub hl [1, 2, 0] rfl)
  · refine lv_iconst (v := (-1 : Int32)) hx hb dX12_salt_7 (by decide) ?_
    exact x_ri hM hG hr hlk rfl (k0 _ (Option.some.inj h).symm) dX12_salt_8
set_option maxHeartbeats 4000000 in
set_option maxRecDepth 100000 in
theorem c_X12_salt {l : Launch} {D : va_G} {cy : Nat → ClassId} {a z : Nat → Nat} (hI : xI xmb a) {S : xSt} {x1 : Int32} {S' : xSt} {v' : Int32} (hf : f_X12_salt S x1 = some (S', v')) (sz : Nat) : Met l yX12_salt (Cond.code yX12_salt cX12_salt 3 (some .int) :: xTB) ({ frames := 2, cells := 0, slots := 0, locals := 42 } : Room) (va_Pc [.ref (a 0), .int x1] (xPre D cy xmb a z S sz)) (xQi D cy xmb a S' v' sz) 0 0 (xA xmb a sz) := by
  refine Met.ofW (cc := cX12_salt) (maxL := 3) (ret := (some .int)) (by decide) rfl ?_
  intro p e s m args below meth c s₁ B hml hv
  obtain ⟨rfl, hsz, hP, hK, hE⟩ := hv
  subst hsz
  have hl := lv_entry ([.ref (a 0), .int x1]) (n := 3) (Nat.le_of_ble_eq_true rfl)
  rw [lg_entry_eq]
  generalize (lg_sl ([.ref (a 0), .int x1]) ++ List.replicate (3 - (lg_sl ([.ref (a 0), .int x1])).length) Slot.unset).toArray = ls at hl ⊢
  have hl : lv_has ls 3 [(0, .ref (a 0)), (1, .int x1)] := hl
  exact w_X12_salt_0 ⟨B.exec, B.bytes, hml, findClass_of_methodNamed B.named, fun w hw => atoms_spec (ws := Cond.code yX12_salt cX12_salt 3 (some .int) :: xTB) B.pre w (List.mem_cons_of_mem _ hw), hK, hI, hE⟩ B.returns B.notSynchronized hf (fun t0 e => e.symm) ⟨hP, va_S.rf⟩ (lv_sub hl [0, 1] rfl)
set_option maxHeartbeats 4000000 in
set_option maxRecDepth 100000 in
theorem w_X12_read_43 {x1 : Int32} (hM : xM p c cX12_read m s args RX12 2 D cy xmb a z) (hr : meth.sig.returnType = (some .int)) (hlk : meth.locks = false) {S' : xSt} {v' : Int32} {S : xSt} {q : (xSt × Int32)} (h : f_X12_read_43 x1 S = some q) (k0 : ∀ t0 : xSt × Int32, q = t0 → t0 = (S', v')) {H : Heap} {locs : List Loc} (hG : xG D cy xmb a S s H locs) {ls : Array Slot} (hl : lv_has ls 2 [(0, .ref (a 0)), (1, .int x1)]) : W p l e ({ frames := 2, cells := 0, slots := 0, locals := 43 } : Room) s m args below meth c H locs 0 0 (MQ below (xQi D cy xmb a S' v' s.heap.size) args s 0 0 (xA xmb a s.heap.size)) (F0 m 43 ls []) := by
  have hx := hM.1
  have hb := hM.2.1
  refine lv_aload_n hx hb dX12_read_43 rfl (lv_at hl 0 rfl) ?_
  refine x_gr (r := 3) hM hG xfl_X12_18 xmt_0 (by decide) rfl dX12_read_44 ?_
  refine lv_iload_n hx hb dX12_read_47 rfl (lv_at hl 1 rfl) ?_
  refine x_iald hM hG xmt_3 h dX12_read_48 (fun v_1 h => ?_)
  exact x_ri hM hG hr hlk rfl (k0 _ (Option.some.inj h).symm) dX12_read_49
set_option maxHeartbeats 4000000 in
set_option maxRecDepth 100000 in
theorem w_X12_read_0 {x1 : Int32} (hM : xM p c cX12_read m s args RX12 2 D cy xmb a z) (hr : meth.sig.returnType = (some .int)) (hlk : meth.locks = false) {S' : xSt} {v' : Int32} {S : xSt} {q : (xSt × Int32)} (h : f_X12_read_0 x1 S = some q) (k0 : ∀ t0 : xSt × Int32, q = t0 → t0 = (S', v')) {H : Heap} {locs : List Loc} (hG : xG D cy xmb a S s H locs) {ls : Array Slot} (hl : lv_has ls 2 [(0, .ref (a 0)), (1, .int x1)]) : W p l e ({ frames := 2, cells := 0, slots := 0, locals := 43 } : Room) s m args below meth c H locs 0 0 (MQ below (xQi D cy xmb a S' v' s.heap.size) args s 0 0 (xA xmb a s.heap.size)) (F0 m 0 ls []) := by
  have hx := hM.1
  have hb := hM.2.1
  refine lv_aload_n hx hb dX12_read_0 rfl (lv_at hl 0 rfl) ?_
  refine lv_iload_n hx hb dX12_read_1 rfl (lv_at hl 1 rfl) ?_
  refine x_cVi (As := [.int x1]) (rest := []) hM hG xml_X12_173 xwi_X12_isCell xws_X12_isCell xmt_0 (by decide) rfl h (fun S' v e => c_X12_isCell hM.2.2.2.2.2.2.1 e _) ⟨Nat.le_of_ble_eq_true rfl, Nat.le_of_ble_eq_true rfl⟩ rfl hl.1 rfl (Nat.le_of_ble_eq_true rfl) dX12_read_2 (fun S_1 v_2 H locs h hG => ?_)
  refine x_if_ne (tgt := 10) hM h dX12_read_5 (by decide) (fun c_3 h => ?_) (fun c_3 h => ?_)
  · refine lv_aload_n hx hb dX12_read_10 rfl (lv_at hl 0 rfl) ?_
    refine x_gr (r := 9) hM hG xfl_X12_36 xmt_0 (by decide) rfl dX12_read_11 ?_
    refine lv_iconst (v := (3 : Int32)) hx hb dX12_read_14 (by decide) ?_
    refine lv_dup2_11 hx hb dX12_read_15 rfl rfl ?_
    refine x_iald hM hG xmt_9 h dX12_read_16 (fun v_4 h => ?_)
    refine lv_iconst (v := (1 : Int32)) hx hb dX12_read_17 (by decide) ?_
    refine x_iadd hM h dX12_read_18 (fun v_5 h => ?_)
    refine x_iast hM hG xmt_9 h dX12_read_19 (fun S_6 H locs h hG => ?_)
    refine lv_aload_n hx hb dX12_read_20 rfl (lv_at hl 0 rfl) ?_
    refine x_gr (r := 3) hM hG xfl_X12_18 xmt_0 (by decide) rfl dX12_read_21 ?_
    refine lv_iload_n hx hb dX12_read_24 rfl (lv_at hl 1 rfl) ?_
    refine x_iald hM hG xmt_3 h dX12_read_25 (fun v_7 h => ?_)
    refine lv_aload_n hx hb dX12_read_26 rfl (lv_at hl 0 rfl) ?_
    refine x_gi hM hG xfl_X12_107 xmt_0 (by decide) rfl h dX12_read_27 (fun v_8 h => ?_)
    refine x_icmp_le (tgt := 43) hM h dX12_read_30 (by decide) (fun c_9 h => ?_) (fun c_9 h => ?_)
    · exact w_X12_read_43 hM hr hlk h (fun t0 e => k0 t0 e) hG (lv_sub hl [0, 1] rfl)
    · refine lv_aload_n hx hb dX12_read_33 rfl (lv_at hl 0 rfl) ?_
      refine lv_aload_n hx hb dX12_read_34 rfl (lv_at hl 0 rfl) ?_
      refine x_gr (r := 3) hM hG xfl_X12_18 xmt_0 (by decide) rfl dX12_read_35 ?_
      refine lv_iload_n hx hb dX12_read_38 rfl (lv_at hl 1 rfl) ?_
      refine x_iald hM hG xmt_3 h dX12_read_39 (fun v_10 h => ?_)
      refine x_pi hM hG xfl_X12_107 xfp_X12_46 xmt_0 (by decide) rfl rfl rfl h dX12_read_40 (fun S_11 H locs h hG => ?_)
      exact w_X12_read_43 hM hr hlk h (fun t0 e => k0 t0 e) hG (lv_sub hl [0, 1] rfl)
  · refine lv_iconst (v := (-1 : Int32)) hx hb dX12_read_8 (by decide) ?_
    exact x_ri hM hG hr hlk rfl (k0 _ (Option.some.inj h).symm) dX12_read_9
set_option maxHeartbeats 4000000 in
set_option maxRecDepth 100000 in
theorem c_X12_read {l : Launch} {D : va_G} {cy : Nat → ClassId} {a z : Nat → Nat} (hI : xI xmb a) {S : xSt} {x1 : Int32} {S' : xSt} {v' : Int32} (hf : f_X12_read S x1 = some (S', v')) (sz : Nat) : Met l yX12_read (Cond.code yX12_read cX12_read 2 (some .int) :: xTB) ({ frames := 2, cells := 0, slots := 0, locals := 43 } : Room) (va_Pc [.ref (a 0), .int x1] (xPre D cy xmb a z S sz)) (xQi D cy xmb a S' v' sz) 0 0 (xA xmb a sz) := by
  refine Met.ofW (cc := cX12_read) (maxL := 2) (ret := (some .int)) (by decide) rfl ?_
  intro p e s m args below meth c s₁ B hml hv
  obtain ⟨rfl, hsz, hP, hK, hE⟩ := hv
  subst hsz
  have hl := lv_entry ([.ref (a 0), .int x1]) (n := 2) (Nat.le_of_ble_eq_true rfl)
  rw [lg_entry_eq]
  generalize (lg_sl ([.ref (a 0), .int x1]) ++ List.replicate (2 - (lg_sl ([.ref (a 0), .int x1])).length) Slot.unset).toArray = ls at hl ⊢
  have hl : lv_has ls 2 [(0, .ref (a 0)), (1, .int x1)] := hl
  exact w_X12_read_0 ⟨B.exec, B.bytes, hml, findClass_of_methodNamed B.named, fun w hw => atoms_spec (ws := Cond.code yX12_read cX12_read 2 (some .int) :: xTB) B.pre w (List.mem_cons_of_mem _ hw), hK, hI, hE⟩ B.returns B.notSynchronized hf (fun t0 e => e.symm) ⟨hP, va_S.rf⟩ (lv_sub hl [0, 1] rfl)
set_option maxHeartbeats 4000000 in
set_option maxRecDepth 100000 in
theorem w_X12_day_33 (hM : xM p c cX12_day m s args RX12 1 D cy xmb a z) (hr : meth.sig.returnType = (some .int)) (hlk : meth.locks = false) {S' : xSt} {v' : Int32} {S : xSt} {q : (xSt × Int32)} (h : f_X12_day_33 S = some q) (k0 : ∀ t0 : xSt × Int32, q = t0 → t0 = (S', v')) {H : Heap} {locs : List Loc} (hG : xG D cy xmb a S s H locs) {ls : Array Slot} (hl : lv_has ls 1 [(0, .ref (a 0))]) : W p l e ({ frames := 7, cells := 0, slots := 0, locals := 157 } : Room) s m args below meth c H locs 0 0 (MQ below (xQi D cy xmb a S' v' s.heap.size) args s 0 0 (xA xmb a s.heap.size)) (F0 m 33 ls []) := by
  have hx := hM.1
  have hb := hM.2.1
  refine lv_aload_n hx hb dX12_day_33 rfl (lv_at hl 0 rfl) ?_
  refine x_gr (r := 9) hM hG xfl_X12_36 xmt_0 (by decide) rfl dX12_day_34 ?_
  refine lv_iconst (v := (4 : Int32)) hx hb dX12_day_37 (by decide) ?_
  refine lv_dup2_11 hx hb dX12_day_38 rfl rfl ?_
  refine x_iald hM hG xmt_9 h dX12_day_39 (fun v_1 h => ?_)
  refine lv_iconst (v := (1 : Int32)) hx hb dX12_day_40 (by decide) ?_
  refine x_iadd hM h dX12_day_41 (fun v_2 h => ?_)
  refine x_iast hM hG xmt_9 h dX12_day_42 (fun S_3 H locs h hG => ?_)
  refine lv_aload_n hx hb dX12_day_43 rfl (lv_at hl 0 rfl) ?_
  refine x_cVi (As := []) (rest := []) hM hG xml_X12_298 xwi_X12_glowMany xws_X12_glowMany xmt_0 (by decide) rfl h (fun S' v e => c_X12_glowMany hM.2.2.2.2.2.2.1 e _) ⟨Nat.le_of_ble_eq_true rfl, Nat.le_of_ble_eq_true rfl⟩ rfl hl.1 rfl (Nat.le_of_ble_eq_true rfl) dX12_day_44 (fun S_4 v_5 H locs h hG => ?_)
  exact x_ri hM hG hr hlk rfl (k0 _ (Option.some.inj h).symm) dX12_day_47
set_option maxHeartbeats 4000000 in
set_option maxRecDepth 100000 in
theorem w_X12_day_0 (hM : xM p c cX12_day m s args RX12 1 D cy xmb a z) (hr : meth.sig.returnType = (some .int)) (hlk : meth.locks = false) {S' : xSt} {v' : Int32} {S : xSt} {q : (xSt × Int32)} (h : f_X12_day_0 S = some q) (k0 : ∀ t0 : xSt × Int32, q = t0 → t0 = (S', v')) {H : Heap} {locs : List Loc} (hG : xG D cy xmb a S s H locs) {ls : Array Slot} (hl : lv_has ls 1 [(0, .ref (a 0))]) : W p l e ({ frames := 7, cells := 0, slots := 0, locals := 157 } : Room) s m args below meth c H locs 0 0 (MQ below (xQi D cy xmb a S' v' s.heap.size) args s 0 0 (xA xmb a s.heap.size)) (F0 m 0 ls []) := by
  have hx := hM.1
  have hb := hM.2.1
  refine lv_aload_n hx hb dX12_day_0 rfl (lv_at hl 0 rfl) ?_
  refine x_cVv (As := []) (rest := []) hM hG xml_X12_273 xwi_X12_layNow xws_X12_layNow xmt_0 (by decide) rfl h (fun S' v e => c_X12_layNow hM.2.2.2.2.2.2.1 e _) ⟨Nat.le_of_ble_eq_true rfl, Nat.le_of_ble_eq_true rfl⟩ rfl hl.1 rfl (Nat.le_of_ble_eq_true rfl) dX12_day_1 (fun S_1 v_2 H locs h hG => ?_)
  refine lv_aload_n hx hb dX12_day_4 rfl (lv_at hl 0 rfl) ?_
  refine x_cVv (As := []) (rest := []) hM hG xml_X12_282 xwi_X12_goDay xws_X12_goDay xmt_0 (by decide) rfl h (fun S' v e => c_X12_goDay hM.2.2.2.2.2.2.1 e _) ⟨Nat.le_of_ble_eq_true rfl, Nat.le_of_ble_eq_true rfl⟩ rfl hl.1 rfl (Nat.le_of_ble_eq_true rfl) dX12_day_5 (fun S_3 v_4 H locs h hG => ?_)
  refine lv_aload_n hx hb dX12_day_8 rfl (lv_at hl 0 rfl) ?_
  refine x_cVv (As := []) (rest := []) hM hG xml_X12_390 xwi_X12_layBack xws_X12_layBack xmt_0 (by decide) rfl h (fun S' v e => c_X12_layBack hM.2.2.2.2.2.2.1 e _) ⟨Nat.le_of_ble_eq_true rfl, Nat.le_of_ble_eq_true rfl⟩ rfl hl.1 rfl (Nat.le_of_ble_eq_true rfl) dX12_day_9 (fun S_5 v_6 H locs h hG => ?_)
  refine lv_aload_n hx hb dX12_day_12 rfl (lv_at hl 0 rfl) ?_
  refine x_gr (r := 8) hM hG xfl_X12_33 xmt_0 (by decide) rfl dX12_day_13 ?_
  refine lv_iconst (v := (1 : Int32)) hx hb dX12_day_16 (by decide) ?_
  refine x_iald hM hG xmt_8 h dX12_day_17 (fun v_7 h => ?_)
  refine lv_bipush (v := (99 : Int32)) hx hb dX12_day_18 (by decide) ?_
  refine x_icmp_ge (tgt := 33) hM h dX12_day_20 (by decide) (fun c_8 h => ?_) (fun c_8 h => ?_)
  · exact w_X12_day_33 hM hr hlk h (fun t0 e => k0 t0 e) hG (lv_sub hl [0] rfl)
  · refine lv_aload_n hx hb dX12_day_23 rfl (lv_at hl 0 rfl) ?_
    refine x_gr (r := 8) hM hG xfl_X12_33 xmt_0 (by decide) rfl dX12_day_24 ?_
    refine lv_iconst (v := (1 : Int32)) hx hb dX12_day_27 (by decide) ?_
    refine lv_dup2_11 hx hb dX12_day_28 rfl rfl ?_
    refine x_iald hM hG xmt_8 h dX12_day_29 (fun v_9 h => ?_)
    refine lv_iconst (v := (1 : Int32)) hx hb dX12_day_30 (by decide) ?_
    refine x_iadd hM h dX12_day_31 (fun v_10 h => ?_)
    refine x_iast hM hG xmt_8 h dX12_day_32 (fun S_11 H locs h hG => ?_)
    exact w_X12_day_33 hM hr hlk h (fun t0 e => k0 t0 e) hG (lv_sub hl [0] rfl)
set_option maxHeartbeats 4000000 in
set_option maxRecDepth 100000 in
theorem c_X12_day {l : Launch} {D : va_G} {cy : Nat → ClassId} {a z : Nat → Nat} (hI : xI xmb a) {S : xSt} {S' : xSt} {v' : Int32} (hf : f_X12_day S = some (S', v')) (sz : Nat) : Met l yX12_day (Cond.code yX12_day cX12_day 1 (some .int) :: xTB) ({ frames := 7, cells := 0, slots := 0, locals := 157 } : Room) (va_Pc [.ref (a 0)] (xPre D cy xmb a z S sz)) (xQi D cy xmb a S' v' sz) 0 0 (xA xmb a sz) := by
  refine Met.ofW (cc := cX12_day) (maxL := 1) (ret := (some .int)) (by decide) rfl ?_
  intro p e s m args below meth c s₁ B hml hv
  obtain ⟨rfl, hsz, hP, hK, hE⟩ := hv
  subst hsz
  have hl := lv_entry ([.ref (a 0)]) (n := 1) (Nat.le_of_ble_eq_true rfl)
  rw [lg_entry_eq]
  generalize (lg_sl ([.ref (a 0)]) ++ List.replicate (1 - (lg_sl ([.ref (a 0)])).length) Slot.unset).toArray = ls at hl ⊢
  have hl : lv_has ls 1 [(0, .ref (a 0))] := hl
  exact w_X12_day_0 ⟨B.exec, B.bytes, hml, findClass_of_methodNamed B.named, fun w hw => atoms_spec (ws := Cond.code yX12_day cX12_day 1 (some .int) :: xTB) B.pre w (List.mem_cons_of_mem _ hw), hK, hI, hE⟩ B.returns B.notSynchronized hf (fun t0 e => e.symm) ⟨hP, va_S.rf⟩ (lv_sub hl [0] rfl)
end XWwalkM3
