section XWwalkX1
variable {p : Program} {l : Launch} {e : Env} {s : State} {m : MethodId} {args : Array Value} {below : List Frame} {meth : Method} {c : Code} {D : va_G} {cy : Nat → ClassId} {a z : Nat → Nat}
set_option maxHeartbeats 4000000 in
set_option maxRecDepth 100000 in
theorem w_X3_outcome_225 {d : Nat} {g_X3_outcome : xSt → Int32 → Int32 → Int32 → Option (xSt × Int32)} (hg_X3_outcome : ∀ (S : xSt) (x1 : Int32) (x2 : Int32) (x3 : Int32) (S' : xSt) (v' : Int32), g_X3_outcome S x1 x2 x3 = some (S', v') → ∀ sz : Nat, Met l yX3_outcome (Cond.code yX3_outcome cX3_outcome 11 (some .int) :: xTB) ({ frames := 5 + d, cells := 0, slots := 0, locals := 124 + d * 30 } : Room) (va_Pc [.ref (a 93), .int x1, .int x2, .int x3] (xPre D cy xtb a z S sz)) (xQi D cy xtb a S' v' sz) 0 0 (xA xtb a sz)) {x1 : Int32} {r4 : Nat} (hr4 : xIs_X4 r4) {x5 : Int32} {x6 : Int32} {x7 : Int32} {x8 : Int32} (hM : xM p c cX3_outcome m s args RX3 11 D cy xtb a z) (hr : meth.sig.returnType = (some .int)) (hlk : meth.locks = false) {S' : xSt} {v' : Int32} {S : xSt} {q : ((xSt × Int32 × Int32 × Int32) ⊕ (xSt × Int32))} (h : f_X3_outcome_225 g_X3_outcome x1 r4 x5 x6 x7 x8 S = some q) (k0 : ∀ t0 : xSt × Int32, q = (.inr t0) → t0 = (S', v')) (k1 : ∀ (S : xSt) (x6 : Int32) (x7 : Int32) (x8 : Int32), q = (.inl (S, x6, x7, x8)) → ∀ (H : Heap) (locs : List Loc) (ls : Array Slot), xG D cy xtb a S s H locs → lv_has ls 11 [(0, .ref (a 93)), (1, .int x1), (4, .ref (a r4)), (5, .int x5), (6, .int x6), (7, .int x7), (8, .int x8)] → W p l e ({ frames := 5 + (d + 1), cells := 0, slots := 0, locals := 124 + (d + 1) * 30 } : Room) s m args below meth c H locs 0 0 (MQ below (xQi D cy xtb a S' v' s.heap.size) args s 0 0 (xA xtb a s.heap.size)) (F0 m 48 ls [])) {H : Heap} {locs : List Loc} (hG : xG D cy xtb a S s H locs) {ls : Array Slot} (hl : lv_has ls 11 [(0, .ref (a 93)), (1, .int x1), (4, .ref (a r4)), (5, .int x5), (6, .int x6), (7, .int x7), (8, .int x8)]) : W p l e ({ frames := 5 + (d + 1), cells := 0, slots := 0, locals := 124 + (d + 1) * 30 } : Room) s m args below meth c H locs 0 0 (MQ below (xQi D cy xtb a S' v' s.heap.size) args s 0 0 (xA xtb a s.heap.size)) (F0 m 225 ls []) := by
  have hx := hM.1
  have hb := hM.2.1
  refine x_iinc hM (fun v => [(8, .int v), (0, .ref (a 93)), (1, .int x1), (4, .ref (a r4)), (5, .int x5), (6, .int x6), (7, .int x7)]) h dX3_outcome_225 hl (k := 6) rfl (by decide) (by decide) (fun _ => rfl) (fun v_1 ls h hl => ?_)
  refine lv_goto (tgt := 48) hx hb dX3_outcome_228 (by decide) ?_
  exact k1 _ _ _ _ (Option.some.inj h).symm _ _ _ hG (lv_sub hl [1, 2, 3, 4, 5, 6, 0] rfl)
set_option maxHeartbeats 4000000 in
set_option maxRecDepth 100000 in
theorem w_X3_outcome_203 {d : Nat} {g_X3_outcome : xSt → Int32 → Int32 → Int32 → Option (xSt × Int32)} (hg_X3_outcome : ∀ (S : xSt) (x1 : Int32) (x2 : Int32) (x3 : Int32) (S' : xSt) (v' : Int32), g_X3_outcome S x1 x2 x3 = some (S', v') → ∀ sz : Nat, Met l yX3_outcome (Cond.code yX3_outcome cX3_outcome 11 (some .int) :: xTB) ({ frames := 5 + d, cells := 0, slots := 0, locals := 124 + d * 30 } : Room) (va_Pc [.ref (a 93), .int x1, .int x2, .int x3] (xPre D cy xtb a z S sz)) (xQi D cy xtb a S' v' sz) 0 0 (xA xtb a sz)) {x1 : Int32} {r4 : Nat} (hr4 : xIs_X4 r4) {x5 : Int32} {x6 : Int32} {x7 : Int32} {x8 : Int32} {y1 : Int32} (hM : xM p c cX3_outcome m s args RX3 11 D cy xtb a z) (hr : meth.sig.returnType = (some .int)) (hlk : meth.locks = false) {S' : xSt} {v' : Int32} {S : xSt} {q : ((xSt × Int32 × Int32 × Int32) ⊕ (xSt × Int32))} (h : f_X3_outcome_203 g_X3_outcome x1 r4 x5 x6 x7 x8 y1 S = some q) (k0 : ∀ t0 : xSt × Int32, q = (.inr t0) → t0 = (S', v')) (k1 : ∀ (S : xSt) (x6 : Int32) (x7 : Int32) (x8 : Int32), q = (.inl (S, x6, x7, x8)) → ∀ (H : Heap) (locs : List Loc) (ls : Array Slot), xG D cy xtb a S s H locs → lv_has ls 11 [(0, .ref (a 93)), (1, .int x1), (4, .ref (a r4)), (5, .int x5), (6, .int x6), (7, .int x7), (8, .int x8)] → W p l e ({ frames := 5 + (d + 1), cells := 0, slots := 0, locals := 124 + (d + 1) * 30 } : Room) s m args below meth c H locs 0 0 (MQ below (xQi D cy xtb a S' v' s.heap.size) args s 0 0 (xA xtb a s.heap.size)) (F0 m 48 ls [])) {H : Heap} {locs : List Loc} (hG : xG D cy xtb a S s H locs) {ls : Array Slot} (hl : lv_has ls 11 [(0, .ref (a 93)), (1, .int x1), (4, .ref (a r4)), (5, .int x5), (6, .int x6), (7, .int x7), (8, .int x8)]) : W p l e ({ frames := 5 + (d + 1), cells := 0, slots := 0, locals := 124 + (d + 1) * 30 } : Room) s m args below meth c H locs 0 0 (MQ below (xQi D cy xtb a S' v' s.heap.size) args s 0 0 (xA xtb a s.heap.size)) (F0 m 203 ls [.int y1, .ref (a 93)]) := by
  have hx := hM.1
  have hb := hM.2.1
  refine x_pi hM hG xfl_X3_28 xfp_X3_5 xct_93 (by decide) rfl rfl rfl h dX3_outcome_203 (fun S_1 H locs h hG => ?_)
  refine lv_goto (tgt := 225) hx hb dX3_outcome_206 (by decide) ?_
  exact w_X3_outcome_225 hg_X3_outcome hr4 hM hr hlk h (fun t0 e => k0 t0 e) (fun S x6 x7 x8 e => k1 S x6 x7 x8 e) hG (lv_sub hl [0, 1, 2, 3, 4, 5, 6] rfl)
set_option maxHeartbeats 4000000 in
set_option maxRecDepth 100000 in
theorem w_X3_outcome_209 {d : Nat} {g_X3_outcome : xSt → Int32 → Int32 → Int32 → Option (xSt × Int32)} (hg_X3_outcome : ∀ (S : xSt) (x1 : Int32) (x2 : Int32) (x3 : Int32) (S' : xSt) (v' : Int32), g_X3_outcome S x1 x2 x3 = some (S', v') → ∀ sz : Nat, Met l yX3_outcome (Cond.code yX3_outcome cX3_outcome 11 (some .int) :: xTB) ({ frames := 5 + d, cells := 0, slots := 0, locals := 124 + d * 30 } : Room) (va_Pc [.ref (a 93), .int x1, .int x2, .int x3] (xPre D cy xtb a z S sz)) (xQi D cy xtb a S' v' sz) 0 0 (xA xtb a sz)) {x1 : Int32} {r4 : Nat} (hr4 : xIs_X4 r4) {x5 : Int32} {x6 : Int32} {x7 : Int32} {x8 : Int32} {x10 : Int32} (hM : xM p c cX3_outcome m s args RX3 11 D cy xtb a z) (hr : meth.sig.returnType = (some .int)) (hlk : meth.locks = false) {S' : xSt} {v' : Int32} {S : xSt} {q : ((xSt × Int32 × Int32 × Int32) ⊕ (xSt × Int32))} (h : f_X3_outcome_209 g_X3_outcome x1 r4 x5 x6 x7 x8 x10 S = some q) (k0 : ∀ t0 : xSt × Int32, q = (.inr t0) → t0 = (S', v')) (k1 : ∀ (S : xSt) (x6 : Int32) (x7 : Int32) (x8 : Int32), q = (.inl (S, x6, x7, x8)) → ∀ (H : Heap) (locs : List Loc) (ls : Array Slot), xG D cy xtb a S s H locs → lv_has ls 11 [(0, .ref (a 93)), (1, .int x1), (4, .ref (a r4)), (5, .int x5), (6, .int x6), (7, .int x7), (8, .int x8)] → W p l e ({ frames := 5 + (d + 1), cells := 0, slots := 0, locals := 124 + (d + 1) * 30 } : Room) s m args below meth c H locs 0 0 (MQ below (xQi D cy xtb a S' v' s.heap.size) args s 0 0 (xA xtb a s.heap.size)) (F0 m 48 ls [])) {H : Heap} {locs : List Loc} (hG : xG D cy xtb a S s H locs) {ls : Array Slot} (hl : lv_has ls 11 [(0, .ref (a 93)), (1, .int x1), (4, .ref (a r4)), (5, .int x5), (6, .int x6), (7, .int x7), (8, .int x8), (10, .int x10)]) : W p l e ({ frames := 5 + (d + 1), cells := 0, slots := 0, locals := 124 + (d + 1) * 30 } : Room) s m args below meth c H locs 0 0 (MQ below (xQi D cy xtb a S' v' s.heap.size) args s 0 0 (xA xtb a s.heap.size)) (F0 m 209 ls []) := by
  have hx := hM.1
  have hb := hM.2.1
  refine lv_iload hx hb dX3_outcome_209 (lv_at hl 3 rfl) ?_
  refine x_if_ne (tgt := 225) hM h dX3_outcome_211 (by decide) (fun c_1 h => ?_) (fun c_1 h => ?_)
  · exact w_X3_outcome_225 hg_X3_outcome hr4 hM hr hlk h (fun t0 e => k0 t0 e) (fun S x6 x7 x8 e => k1 S x6 x7 x8 e) hG (lv_sub hl [0, 1, 2, 3, 4, 5, 6] rfl)
  · refine lv_iload hx hb dX3_outcome_214 (lv_at hl 7 rfl) ?_
    refine lv_iload hx hb dX3_outcome_216 (lv_at hl 4 rfl) ?_
    refine x_icmp_le (tgt := 225) hM h dX3_outcome_218 (by decide) (fun c_2 h => ?_) (fun c_2 h => ?_)
    · exact w_X3_outcome_225 hg_X3_outcome hr4 hM hr hlk h (fun t0 e => k0 t0 e) (fun S x6 x7 x8 e => k1 S x6 x7 x8 e) hG (lv_sub hl [0, 1, 2, 3, 4, 5, 6] rfl)
    · refine lv_iload hx hb dX3_outcome_221 (lv_at hl 7 rfl) ?_
      refine lv_istore (lv' := [(6, .int x10), (0, .ref (a 93)), (1, .int x1), (4, .ref (a r4)), (5, .int x5), (7, .int x7), (8, .int x8), (10, .int x10)]) hx hb dX3_outcome_223 hl (by decide) rfl (fun ls hl => ?_)
      exact w_X3_outcome_225 hg_X3_outcome hr4 hM hr hlk h (fun t0 e => k0 t0 e) (fun S x6 x7 x8 e => k1 S x6 x7 x8 e) hG (lv_sub hl [1, 2, 3, 4, 0, 5, 6] rfl)
set_option maxHeartbeats 4000000 in
set_option maxRecDepth 100000 in
theorem w_X3_outcome_160 {d : Nat} {g_X3_outcome : xSt → Int32 → Int32 → Int32 → Option (xSt × Int32)} (hg_X3_outcome : ∀ (S : xSt) (x1 : Int32) (x2 : Int32) (x3 : Int32) (S' : xSt) (v' : Int32), g_X3_outcome S x1 x2 x3 = some (S', v') → ∀ sz : Nat, Met l yX3_outcome (Cond.code yX3_outcome cX3_outcome 11 (some .int) :: xTB) ({ frames := 5 + d, cells := 0, slots := 0, locals := 124 + d * 30 } : Room) (va_Pc [.ref (a 93), .int x1, .int x2, .int x3] (xPre D cy xtb a z S sz)) (xQi D cy xtb a S' v' sz) 0 0 (xA xtb a sz)) {x1 : Int32} {r4 : Nat} (hr4 : xIs_X4 r4) {x5 : Int32} {x6 : Int32} {x7 : Int32} {x8 : Int32} {x9 : Int32} (hM : xM p c cX3_outcome m s args RX3 11 D cy xtb a z) (hr : meth.sig.returnType = (some .int)) (hlk : meth.locks = false) {S' : xSt} {v' : Int32} {S : xSt} {q : ((xSt × Int32 × Int32 × Int32) ⊕ (xSt × Int32))} (h : f_X3_outcome_160 g_X3_outcome x1 r4 x5 x6 x7 x8 x9 S = some q) (k0 : ∀ t0 : xSt × Int32, q = (.inr t0) → t0 = (S', v')) (k1 : ∀ (S : xSt) (x6 : Int32) (x7 : Int32) (x8 : Int32), q = (.inl (S, x6, x7, x8)) → ∀ (H : Heap) (locs : List Loc) (ls : Array Slot), xG D cy xtb a S s H locs → lv_has ls 11 [(0, .ref (a 93)), (1, .int x1), (4, .ref (a r4)), (5, .int x5), (6, .int x6), (7, .int x7), (8, .int x8)] → W p l e ({ frames := 5 + (d + 1), cells := 0, slots := 0, locals := 124 + (d + 1) * 30 } : Room) s m args below meth c H locs 0 0 (MQ below (xQi D cy xtb a S' v' s.heap.size) args s 0 0 (xA xtb a s.heap.size)) (F0 m 48 ls [])) {H : Heap} {locs : List Loc} (hG : xG D cy xtb a S s H locs) {ls : Array Slot} (hl : lv_has ls 11 [(0, .ref (a 93)), (1, .int x1), (4, .ref (a r4)), (5, .int x5), (6, .int x6), (7, .int x7), (8, .int x8), (9, .int x9)]) : W p l e ({ frames := 5 + (d + 1), cells := 0, slots := 0, locals := 124 + (d + 1) * 30 } : Room) s m args below meth c H locs 0 0 (MQ below (xQi D cy xtb a S' v' s.heap.size) args s 0 0 (xA xtb a s.heap.size)) (F0 m 160 ls []) := by
  have hx := hM.1
  have hb := hM.2.1
  refine lv_aload_n hx hb dX3_outcome_160 rfl (lv_at hl 0 rfl) ?_
  refine lv_iload_n hx hb dX3_outcome_161 rfl (lv_at hl 1 rfl) ?_
  refine lv_iconst (v := (1 : Int32)) hx hb dX3_outcome_162 (by decide) ?_
  refine x_iadd hM h dX3_outcome_163 (fun v_1 h => ?_)
  refine lv_iload hx hb dX3_outcome_164 (lv_at hl 4 rfl) ?_
  refine lv_iload hx hb dX3_outcome_166 (lv_at hl 5 rfl) ?_
  refine x_cVi (As := [.int v_1, .int x6, .int x7]) (rest := []) hM hG xml_X3_55 xwi_X3_outcome xws_X3_outcome xct_93 (by decide) rfl h (fun S' v e => hg_X3_outcome _ _ _ _ _ _ e _) ⟨by show _ ≤ 5 + (d + 1); omega, by show _ ≤ 124 + (d + 1) * 30; omega⟩ rfl hl.1 rfl (Nat.le_of_ble_eq_true rfl) dX3_outcome_168 (fun S_2 v_3 H locs h hG => ?_)
  refine lv_istore (lv' := [(10, .int v_3), (0, .ref (a 93)), (1, .int x1), (4, .ref (a r4)), (5, .int x5), (6, .int x6), (7, .int x7), (8, .int x8), (9, .int x9)]) hx hb dX3_outcome_171 hl (by decide) rfl (fun ls hl => ?_)
  refine lv_iload hx hb dX3_outcome_173 (lv_at hl 4 rfl) ?_
  refine x_if_eq (tgt := 209) hM h dX3_outcome_175 (by decide) (fun c_4 h => ?_) (fun c_4 h => ?_)
  · exact w_X3_outcome_209 hg_X3_outcome hr4 hM hr hlk h (fun t0 e => k0 t0 e) (fun S x6 x7 x8 e => k1 S x6 x7 x8 e) hG (lv_sub hl [1, 2, 3, 4, 5, 6, 7, 0] rfl)
  · refine lv_iload hx hb dX3_outcome_178 (lv_at hl 0 rfl) ?_
    refine lv_iload hx hb dX3_outcome_180 (lv_at hl 6 rfl) ?_
    refine x_icmp_ge (tgt := 209) hM h dX3_outcome_182 (by decide) (fun c_5 h => ?_) (fun c_5 h => ?_)
    · exact w_X3_outcome_209 hg_X3_outcome hr4 hM hr hlk h (fun t0 e => k0 t0 e) (fun S x6 x7 x8 e => k1 S x6 x7 x8 e) hG (lv_sub hl [1, 2, 3, 4, 5, 6, 7, 0] rfl)
    · refine lv_iload hx hb dX3_outcome_185 (lv_at hl 0 rfl) ?_
      refine lv_istore (lv' := [(7, .int v_3), (10, .int v_3), (0, .ref (a 93)), (1, .int x1), (4, .ref (a r4)), (5, .int x5), (6, .int x6), (8, .int x8), (9, .int x9)]) hx hb dX3_outcome_187 hl (by decide) rfl (fun ls hl => ?_)
      refine lv_aload_n hx hb dX3_outcome_189 rfl (lv_at hl 2 rfl) ?_
      refine lv_iload_n hx hb dX3_outcome_190 rfl (lv_at hl 3 rfl) ?_
      refine x_if_ne (tgt := 199) hM h dX3_outcome_191 (by decide) (fun c_6 h => ?_) (fun c_6 h => ?_)
      · refine lv_aload_n hx hb dX3_outcome_199 rfl (lv_at hl 2 rfl) ?_
        refine x_gi hM hG xfl_X3_28 xct_93 (by decide) rfl h dX3_outcome_200 (fun v_7 h => ?_)
        exact w_X3_outcome_203 hg_X3_outcome hr4 hM hr hlk h (fun t0 e => k0 t0 e) (fun S x6 x7 x8 e => k1 S x6 x7 x8 e) hG (lv_sub hl [2, 3, 4, 5, 6, 0, 7] rfl)
      · refine lv_iload hx hb dX3_outcome_194 (lv_at hl 8 rfl) ?_
        refine lv_goto (tgt := 203) hx hb dX3_outcome_196 (by decide) ?_
        exact w_X3_outcome_203 hg_X3_outcome hr4 hM hr hlk h (fun t0 e => k0 t0 e) (fun S x6 x7 x8 e => k1 S x6 x7 x8 e) hG (lv_sub hl [2, 3, 4, 5, 6, 0, 7] rfl)
set_option maxHeartbeats 4000000 in
set_option maxRecDepth 100000 in
theorem w_X3_outcome_140 {d : Nat} {g_X3_outcome : xSt → Int32 → Int32 → Int32 → Option (xSt × Int32)} (hg_X3_outcome : ∀ (S : xSt) (x1 : Int32) (x2 : Int32) (x3 : Int32) (S' : xSt) (v' : Int32), g_X3_outcome S x1 x2 x3 = some (S', v') → ∀ sz : Nat, Met l yX3_outcome (Cond.code yX3_outcome cX3_outcome 11 (some .int) :: xTB) ({ frames := 5 + d, cells := 0, slots := 0, locals := 124 + d * 30 } : Room) (va_Pc [.ref (a 93), .int x1, .int x2, .int x3] (xPre D cy xtb a z S sz)) (xQi D cy xtb a S' v' sz) 0 0 (xA xtb a sz)) {x1 : Int32} {r4 : Nat} (hr4 : xIs_X4 r4) {x5 : Int32} {x6 : Int32} {x7 : Int32} {x8 : Int32} {x9 : Int32} (hM : xM p c cX3_outcome m s args RX3 11 D cy xtb a z) (hr : meth.sig.returnType = (some .int)) (hlk : meth.locks = false) {S' : xSt} {v' : Int32} {S : xSt} {q : ((xSt × Int32 × Int32 × Int32) ⊕ (xSt × Int32))} (h : f_X3_outcome_140 g_X3_outcome x1 r4 x5 x6 x7 x8 x9 S = some q) (k0 : ∀ t0 : xSt × Int32, q = (.inr t0) → t0 = (S', v')) (k1 : ∀ (S : xSt) (x6 : Int32) (x7 : Int32) (x8 : Int32), q = (.inl (S, x6, x7, x8)) → ∀ (H : Heap) (locs : List Loc) (ls : Array Slot), xG D cy xtb a S s H locs → lv_has ls 11 [(0, .ref (a 93)), (1, .int x1), (4, .ref (a r4)), (5, .int x5), (6, .int x6), (7, .int x7), (8, .int x8)] → W p l e ({ frames := 5 + (d + 1), cells := 0, slots := 0, locals := 124 + (d + 1) * 30 } : Room) s m args below meth c H locs 0 0 (MQ below (xQi D cy xtb a S' v' s.heap.size) args s 0 0 (xA xtb a s.heap.size)) (F0 m 48 ls [])) {H : Heap} {locs : List Loc} (hG : xG D cy xtb a S s H locs) {ls : Array Slot} (hl : lv_has ls 11 [(0, .ref (a 93)), (1, .int x1), (4, .ref (a r4)), (5, .int x5), (6, .int x6), (7, .int x7), (8, .int x8), (9, .int x9)]) : W p l e ({ frames := 5 + (d + 1), cells := 0, slots := 0, locals := 124 + (d + 1) * 30 } : Room) s m args below meth c H locs 0 0 (MQ below (xQi D cy xtb a S' v' s.heap.size) args s 0 0 (xA xtb a s.heap.size)) (F0 m 140 ls []) := by
  have hx := hM.1
  have hb := hM.2.1
  refine lv_iload hx hb dX3_outcome_140 (lv_at hl 7 rfl) ?_
  refine lv_bipush (v := (6 : Int32)) hx hb dX3_outcome_142 (by decide) ?_
  refine x_icmp_eq (tgt := 160) hM h dX3_outcome_144 (by decide) (fun c_1 h => ?_) (fun c_1 h => ?_)
  · exact w_X3_outcome_160 hg_X3_outcome hr4 hM hr hlk h (fun t0 e => k0 t0 e) (fun S x6 x7 x8 e => k1 S x6 x7 x8 e) hG (lv_sub hl [0, 1, 2, 3, 4, 5, 6, 7] rfl)
  · refine lv_aload_n hx hb dX3_outcome_147 rfl (lv_at hl 0 rfl) ?_
    refine x_gr (r := 94) hM hG xfl_X3_13 xct_93 (by decide) rfl dX3_outcome_148 ?_
    refine lv_iload_n hx hb dX3_outcome_151 rfl (lv_at hl 1 rfl) ?_
    refine lv_iconst (v := (1 : Int32)) hx hb dX3_outcome_152 (by decide) ?_
    refine x_iadd hM h dX3_outcome_153 (fun v_2 h => ?_)
    refine x_aald4 hM hG xct_94 h dX3_outcome_154 (fun hi_3 h => ?_)
    refine lv_iload hx hb dX3_outcome_155 (lv_at hl 7 rfl) ?_
    refine x_cVv (As := [.int x9]) (rest := []) hM hG xml_X3_70 xwi_X4_wetColumn xws_X4_wetColumn (xih_view hi_3).1 (by decide) rfl h (fun S' v e => c_X4_wetColumn hM.2.2.2.2.2.2.1 (xih_view hi_3) e _) ⟨by show _ ≤ 5 + (d + 1); omega, by show _ ≤ 124 + (d + 1) * 30; omega⟩ rfl hl.1 rfl (Nat.le_of_ble_eq_true rfl) dX3_outcome_157 (fun S_4 v_5 H locs h hG => ?_)
    exact w_X3_outcome_160 hg_X3_outcome hr4 hM hr hlk h (fun t0 e => k0 t0 e) (fun S x6 x7 x8 e => k1 S x6 x7 x8 e) hG (lv_sub hl [0, 1, 2, 3, 4, 5, 6, 7] rfl)
set_option maxHeartbeats 4000000 in
set_option maxRecDepth 100000 in
theorem w_X3_outcome_99 {d : Nat} {g_X3_outcome : xSt → Int32 → Int32 → Int32 → Option (xSt × Int32)} (hg_X3_outcome : ∀ (S : xSt) (x1 : Int32) (x2 : Int32) (x3 : Int32) (S' : xSt) (v' : Int32), g_X3_outcome S x1 x2 x3 = some (S', v') → ∀ sz : Nat, Met l yX3_outcome (Cond.code yX3_outcome cX3_outcome 11 (some .int) :: xTB) ({ frames := 5 + d, cells := 0, slots := 0, locals := 124 + d * 30 } : Room) (va_Pc [.ref (a 93), .int x1, .int x2, .int x3] (xPre D cy xtb a z S sz)) (xQi D cy xtb a S' v' sz) 0 0 (xA xtb a sz)) {x1 : Int32} {r4 : Nat} (hr4 : xIs_X4 r4) {x5 : Int32} {x6 : Int32} {x7 : Int32} {x8 : Int32} {x9 : Int32} (hM : xM p c cX3_outcome m s args RX3 11 D cy xtb a z) (hr : meth.sig.returnType = (some .int)) (hlk : meth.locks = false) {S' : xSt} {v' : Int32} {S : xSt} {q : ((xSt × Int32 × Int32 × Int32) ⊕ (xSt × Int32))} (h : f_X3_outcome_99 g_X3_outcome x1 r4 x5 x6 x7 x8 x9 S = some q) (k0 : ∀ t0 : xSt × Int32, q = (.inr t0) → t0 = (S', v')) (k1 : ∀ (S : xSt) (x6 : Int32) (x7 : Int32) (x8 : Int32), q = (.inl (S, x6, x7, x8)) → ∀ (H : Heap) (locs : List Loc) (ls : Array Slot), xG D cy xtb a S s H locs → lv_has ls 11 [(0, .ref (a 93)), (1, .int x1), (4, .ref (a r4)), (5, .int x5), (6, .int x6), (7, .int x7), (8, .int x8)] → W p l e ({ frames := 5 + (d + 1), cells := 0, slots := 0, locals := 124 + (d + 1) * 30 } : Room) s m args below meth c H locs 0 0 (MQ below (xQi D cy xtb a S' v' s.heap.size) args s 0 0 (xA xtb a s.heap.size)) (F0 m 48 ls [])) {H : Heap} {locs : List Loc} (hG : xG D cy xtb a S s H locs) {ls : Array Slot} (hl : lv_has ls 11 [(0, .ref (a 93)), (1, .int x1), (4, .ref (a r4)), (5, .int x5), (6, .int x6), (7, .int x7), (8, .int x8), (9, .int x9)]) : W p l e ({ frames := 5 + (d + 1), cells := 0, slots := 0, locals := 124 + (d + 1) * 30 } : Room) s m args below meth c H locs 0 0 (MQ below (xQi D cy xtb a S' v' s.heap.size) args s 0 0 (xA xtb a s.heap.size)) (F0 m 99 ls []) := by
  have hx := hM.1
  have hb := hM.2.1
  refine lv_aload_n hx hb dX3_outcome_99 rfl (lv_at hl 0 rfl) ?_
  refine x_gr (r := 94) hM hG xfl_X3_13 xct_93 (by decide) rfl dX3_outcome_100 ?_
  refine lv_iload_n hx hb dX3_outcome_103 rfl (lv_at hl 1 rfl) ?_
  refine lv_iconst (v := (1 : Int32)) hx hb dX3_outcome_104 (by decide) ?_
  refine x_iadd hM h dX3_outcome_105 (fun v_1 h => ?_)
  refine x_aald4 hM hG xct_94 h dX3_outcome_106 (fun hi_2 h => ?_)
  refine lv_aload hx hb dX3_outcome_107 (lv_at hl 2 rfl) ?_
  refine x_cVv (As := [.ref (a r4)]) (rest := []) hM hG xml_X3_47 xwi_X4_takeAll xws_X4_takeAll (xih_view hi_2).1 (by decide) rfl h (fun S' v e => c_X4_takeAll hM.2.2.2.2.2.2.1 (xih_view hi_2) hr4 e _) ⟨by show _ ≤ 5 + (d + 1); omega, by show _ ≤ 124 + (d + 1) * 30; omega⟩ rfl hl.1 rfl (Nat.le_of_ble_eq_true rfl) dX3_outcome_109 (fun S_3 v_4 H locs h hG => ?_)
  refine lv_iload hx hb dX3_outcome_112 (lv_at hl 7 rfl) ?_
  refine lv_bipush (v := (6 : Int32)) hx hb dX3_outcome_114 (by decide) ?_
  refine x_icmp_eq (tgt := 140) hM h dX3_outcome_116 (by decide) (fun c_5 h => ?_) (fun c_5 h => ?_)
  · exact w_X3_outcome_140 hg_X3_outcome hr4 hM hr hlk h (fun t0 e => k0 t0 e) (fun S x6 x7 x8 e => k1 S x6 x7 x8 e) hG (lv_sub hl [0, 1, 2, 3, 4, 5, 6, 7] rfl)
  · refine lv_iload hx hb dX3_outcome_119 (lv_at hl 3 rfl) ?_
    refine x_if_eq (tgt := 140) hM h dX3_outcome_121 (by decide) (fun c_6 h => ?_) (fun c_6 h => ?_)
    · exact w_X3_outcome_140 hg_X3_outcome hr4 hM hr hlk h (fun t0 e => k0 t0 e) (fun S x6 x7 x8 e => k1 S x6 x7 x8 e) hG (lv_sub hl [0, 1, 2, 3, 4, 5, 6, 7] rfl)
    · refine lv_aload_n hx hb dX3_outcome_124 rfl (lv_at hl 0 rfl) ?_
      refine x_gr (r := 94) hM hG xfl_X3_13 xct_93 (by decide) rfl dX3_outcome_125 ?_
      refine lv_iload_n hx hb dX3_outcome_128 rfl (lv_at hl 1 rfl) ?_
      refine lv_iconst (v := (1 : Int32)) hx hb dX3_outcome_129 (by decide) ?_
      refine x_iadd hM h dX3_outcome_130 (fun v_7 h => ?_)
      refine x_aald4 hM hG xct_94 h dX3_outcome_131 (fun hi_8 h => ?_)
      refine lv_iload hx hb dX3_outcome_132 (lv_at hl 7 rfl) ?_
      refine x_cVv (As := [.int x9]) (rest := []) hM hG xml_X3_66 xwi_X4_turnColumn xws_X4_turnColumn (xih_view hi_8).1 (by decide) rfl h (fun S' v e => c_X4_turnColumn hM.2.2.2.2.2.2.1 (xih_view hi_8) e _) ⟨by show _ ≤ 5 + (d + 1); omega, by show _ ≤ 124 + (d + 1) * 30; omega⟩ rfl hl.1 rfl (Nat.le_of_ble_eq_true rfl) dX3_outcome_134 (fun S_9 v_10 H locs h hG => ?_)
      refine lv_goto (tgt := 160) hx hb dX3_outcome_137 (by decide) ?_
      exact w_X3_outcome_160 hg_X3_outcome hr4 hM hr hlk h (fun t0 e => k0 t0 e) (fun S x6 x7 x8 e => k1 S x6 x7 x8 e) hG (lv_sub hl [0, 1, 2, 3, 4, 5, 6, 7] rfl)
set_option maxHeartbeats 4000000 in
set_option maxRecDepth 100000 in
theorem w_X3_outcome_76 {d : Nat} {g_X3_outcome : xSt → Int32 → Int32 → Int32 → Option (xSt × Int32)} (hg_X3_outcome : ∀ (S : xSt) (x1 : Int32) (x2 : Int32) (x3 : Int32) (S' : xSt) (v' : Int32), g_X3_outcome S x1 x2 x3 = some (S', v') → ∀ sz : Nat, Met l yX3_outcome (Cond.code yX3_outcome cX3_outcome 11 (some .int) :: xTB) ({ frames := 5 + d, cells := 0, slots := 0, locals := 124 + d * 30 } : Room) (va_Pc [.ref (a 93), .int x1, .int x2, .int x3] (xPre D cy xtb a z S sz)) (xQi D cy xtb a S' v' sz) 0 0 (xA xtb a sz)) {x1 : Int32} {r4 : Nat} (hr4 : xIs_X4 r4) {x5 : Int32} {x6 : Int32} {x7 : Int32} {x8 : Int32} {y0 : Int32} (hM : xM p c cX3_outcome m s args RX3 11 D cy xtb a z) (hr : meth.sig.returnType = (some .int)) (hlk : meth.locks = false) {S' : xSt} {v' : Int32} {S : xSt} {q : ((xSt × Int32 × Int32 × Int32) ⊕ (xSt × Int32))} (h : f_X3_outcome_76 g_X3_outcome x1 r4 x5 x6 x7 x8 y0 S = some q) (k0 : ∀ t0 : xSt × Int32, q = (.inr t0) → t0 = (S', v')) (k1 : ∀ (S : xSt) (x6 : Int32) (x7 : Int32) (x8 : Int32), q = (.inl (S, x6, x7, x8)) → ∀ (H : Heap) (locs : List Loc) (ls : Array Slot), xG D cy xtb a S s H locs → lv_has ls 11 [(0, .ref (a 93)), (1, .int x1), (4, .ref (a r4)), (5, .int x5), (6, .int x6), (7, .int x7), (8, .int x8)] → W p l e ({ frames := 5 + (d + 1), cells := 0, slots := 0, locals := 124 + (d + 1) * 30 } : Room) s m args below meth c H locs 0 0 (MQ below (xQi D cy xtb a S' v' s.heap.size) args s 0 0 (xA xtb a s.heap.size)) (F0 m 48 ls [])) {H : Heap} {locs : List Loc} (hG : xG D cy xtb a S s H locs) {ls : Array Slot} (hl : lv_has ls 11 [(0, .ref (a 93)), (1, .int x1), (4, .ref (a r4)), (5, .int x5), (6, .int x6), (7, .int x7), (8, .int x8)]) : W p l e ({ frames := 5 + (d + 1), cells := 0, slots := 0, locals := 124 + (d + 1) * 30 } : Room) s m args below meth c H locs 0 0 (MQ below (xQi D cy xtb a S' v' s.heap.size) args s 0 0 (xA xtb a s.heap.size)) (F0 m 76 ls [.int y0]) := by
  have hx := hM.1
  have hb := hM.2.1
  refine lv_istore (lv' := [(9, .int y0), (0, .ref (a 93)), (1, .int x1), (4, .ref (a r4)), (5, .int x5), (6, .int x6), (7, .int x7), (8, .int x8)]) hx hb dX3_outcome_76 hl (by decide) rfl (fun ls hl => ?_)
  refine lv_iload hx hb dX3_outcome_78 (lv_at hl 0 rfl) ?_
  refine lv_bipush (v := (6 : Int32)) hx hb dX3_outcome_80 (by decide) ?_
  refine x_icmp_eq (tgt := 99) hM h dX3_outcome_82 (by decide) (fun c_1 h => ?_) (fun c_1 h => ?_)
  · exact w_X3_outcome_99 hg_X3_outcome hr4 hM hr hlk h (fun t0 e => k0 t0 e) (fun S x6 x7 x8 e => k1 S x6 x7 x8 e) hG (lv_sub hl [1, 2, 3, 4, 5, 6, 7, 0] rfl)
  · refine lv_aload hx hb dX3_outcome_85 (lv_at hl 3 rfl) ?_
    refine x_gr (r := r4 + 1) hM hG xfl_X3_63 hr4.1 (by decide) rfl dX3_outcome_87 ?_
    refine lv_iload hx hb dX3_outcome_90 (lv_at hl 0 rfl) ?_
    refine x_iald hM hG hr4.2.1 h dX3_outcome_92 (fun v_2 h => ?_)
    refine x_if_ne (tgt := 99) hM h dX3_outcome_93 (by decide) (fun c_3 h => ?_) (fun c_3 h => ?_)
    · exact w_X3_outcome_99 hg_X3_outcome hr4 hM hr hlk h (fun t0 e => k0 t0 e) (fun S x6 x7 x8 e => k1 S x6 x7 x8 e) hG (lv_sub hl [1, 2, 3, 4, 5, 6, 7, 0] rfl)
    · refine lv_goto (tgt := 225) hx hb dX3_outcome_96 (by decide) ?_
      exact w_X3_outcome_225 hg_X3_outcome hr4 hM hr hlk h (fun t0 e => k0 t0 e) (fun S x6 x7 x8 e => k1 S x6 x7 x8 e) hG (lv_sub hl [1, 2, 3, 4, 5, 6, 7] rfl)
set_option maxHeartbeats 4000000 in
set_option maxRecDepth 100000 in
theorem w_X3_outcome_231 {d : Nat} {g_X3_outcome : xSt → Int32 → Int32 → Int32 → Option (xSt × Int32)} (hg_X3_outcome : ∀ (S : xSt) (x1 : Int32) (x2 : Int32) (x3 : Int32) (S' : xSt) (v' : Int32), g_X3_outcome S x1 x2 x3 = some (S', v') → ∀ sz : Nat, Met l yX3_outcome (Cond.code yX3_outcome cX3_outcome 11 (some .int) :: xTB) ({ frames := 5 + d, cells := 0, slots := 0, locals := 124 + d * 30 } : Room) (va_Pc [.ref (a 93), .int x1, .int x2, .int x3] (xPre D cy xtb a z S sz)) (xQi D cy xtb a S' v' sz) 0 0 (xA xtb a sz)) {x5 : Int32} {x6 : Int32} {x7 : Int32} (hM : xM p c cX3_outcome m s args RX3 11 D cy xtb a z) (hr : meth.sig.returnType = (some .int)) (hlk : meth.locks = false) {S' : xSt} {v' : Int32} {S : xSt} {q : (xSt × Int32)} (h : f_X3_outcome_231 g_X3_outcome x5 x6 x7 S = some q) (k0 : ∀ t0 : xSt × Int32, q = t0 → t0 = (S', v')) {H : Heap} {locs : List Loc} (hG : xG D cy xtb a S s H locs) {ls : Array Slot} (hl : lv_has ls 11 [(5, .int x5), (6, .int x6), (7, .int x7)]) : W p l e ({ frames := 5 + (d + 1), cells := 0, slots := 0, locals := 124 + (d + 1) * 30 } : Room) s m args below meth c H locs 0 0 (MQ below (xQi D cy xtb a S' v' s.heap.size) args s 0 0 (xA xtb a s.heap.size)) (F0 m 231 ls []) := by
  have hx := hM.1
  have hb := hM.2.1
  refine lv_iload hx hb dX3_outcome_231 (lv_at hl 0 rfl) ?_
  refine x_if_eq (tgt := 241) hM h dX3_outcome_233 (by decide) (fun c_1 h => ?_) (fun c_1 h => ?_)
  · refine lv_iload hx hb dX3_outcome_241 (lv_at hl 1 rfl) ?_
    exact x_ri hM hG hr hlk rfl (k0 _ (Option.some.inj h).symm) dX3_outcome_243
  · refine lv_iload hx hb dX3_outcome_236 (lv_at hl 2 rfl) ?_
    refine lv_goto (tgt := 243) hx hb dX3_outcome_238 (by decide) ?_
    exact x_ri hM hG hr hlk rfl (k0 _ (Option.some.inj h).symm) dX3_outcome_243
set_option maxHeartbeats 4000000 in
set_option maxRecDepth 100000 in
theorem w_X3_outcome_48 {d : Nat} {g_X3_outcome : xSt → Int32 → Int32 → Int32 → Option (xSt × Int32)} (hg_X3_outcome : ∀ (S : xSt) (x1 : Int32) (x2 : Int32) (x3 : Int32) (S' : xSt) (v' : Int32), g_X3_outcome S x1 x2 x3 = some (S', v') → ∀ sz : Nat, Met l yX3_outcome (Cond.code yX3_outcome cX3_outcome 11 (some .int) :: xTB) ({ frames := 5 + d, cells := 0, slots := 0, locals := 124 + d * 30 } : Room) (va_Pc [.ref (a 93), .int x1, .int x2, .int x3] (xPre D cy xtb a z S sz)) (xQi D cy xtb a S' v' sz) 0 0 (xA xtb a sz)) {x1 : Int32} {r4 : Nat} (hr4 : xIs_X4 r4) {x5 : Int32} {x6 : Int32} {x7 : Int32} {x8 : Int32} (hM : xM p c cX3_outcome m s args RX3 11 D cy xtb a z) (hr : meth.sig.returnType = (some .int)) (hlk : meth.locks = false) {S' : xSt} {v' : Int32} {S : xSt} {q : ((xSt × Int32 × Int32 × Int32) ⊕ (xSt × Int32))} (h : f_X3_outcome_48 g_X3_outcome x1 r4 x5 S x6 x7 x8 = some q) (k0 : ∀ t0 : xSt × Int32, q = (.inr t0) → t0 = (S', v')) (k1 : ∀ (S : xSt) (x6 : Int32) (x7 : Int32) (x8 : Int32), q = (.inl (S, x6, x7, x8)) → ∀ (H : Heap) (locs : List Loc) (ls : Array Slot), xG D cy xtb a S s H locs → lv_has ls 11 [(0, .ref (a 93)), (1, .int x1), (4, .ref (a r4)), (5, .int x5), (6, .int x6), (7, .int x7), (8, .int x8)] → W p l e ({ frames := 5 + (d + 1), cells := 0, slots := 0, locals := 124 + (d + 1) * 30 } : Room) s m args below meth c H locs 0 0 (MQ below (xQi D cy xtb a S' v' s.heap.size) args s 0 0 (xA xtb a s.heap.size)) (F0 m 48 ls [])) {H : Heap} {locs : List Loc} (hG : xG D cy xtb a S s H locs) {ls : Array Slot} (hl : lv_has ls 11 [(0, .ref (a 93)), (1, .int x1), (4, .ref (a r4)), (5, .int x5), (6, .int x6), (7, .int x7), (8, .int x8)]) : W p l e ({ frames := 5 + (d + 1), cells := 0, slots := 0, locals := 124 + (d + 1) * 30 } : Room) s m args below meth c H locs 0 0 (MQ below (xQi D cy xtb a S' v' s.heap.size) args s 0 0 (xA xtb a s.heap.size)) (F0 m 48 ls []) := by
  have hx := hM.1
  have hb := hM.2.1
  refine lv_iload hx hb dX3_outcome_48 (lv_at hl 6 rfl) ?_
  refine lv_bipush (v := (6 : Int32)) hx hb dX3_outcome_50 (by decide) ?_
  refine x_icmp_gt (tgt := 231) hM h dX3_outcome_52 (by decide) (fun c_1 h => ?_) (fun c_1 h => ?_)
  · obtain ⟨q1, h, e1⟩ := xmr_at h
    exact w_X3_outcome_231 hg_X3_outcome hM hr hlk h (fun t0 e => k0 t0 (by rw [e1, e])) hG (lv_sub hl [3, 4, 5] rfl)
  · refine lv_iload hx hb dX3_outcome_55 (lv_at hl 4 rfl) ?_
    refine lv_iload hx hb dX3_outcome_57 (lv_at hl 5 rfl) ?_
    refine x_icmp_ge (tgt := 231) hM h dX3_outcome_59 (by decide) (fun c_2 h => ?_) (fun c_2 h => ?_)
    · obtain ⟨q1, h, e1⟩ := xmr_at h
      exact w_X3_outcome_231 hg_X3_outcome hM hr hlk h (fun t0 e => k0 t0 (by rw [e1, e])) hG (lv_sub hl [3, 4, 5] rfl)
    · refine lv_iload hx hb dX3_outcome_62 (lv_at hl 6 rfl) ?_
      refine x_if_ne (tgt := 72) hM h dX3_outcome_64 (by decide) (fun c_3 h => ?_) (fun c_3 h => ?_)
      · refine lv_iload hx hb dX3_outcome_72 (lv_at hl 6 rfl) ?_
        refine lv_iconst (v := (1 : Int32)) hx hb dX3_outcome_74 (by decide) ?_
        refine x_isub hM h dX3_outcome_75 (fun v_4 h => ?_)
        exact w_X3_outcome_76 hg_X3_outcome hr4 hM hr hlk h (fun t0 e => k0 t0 e) (fun S x6 x7 x8 e => k1 S x6 x7 x8 e) hG (lv_sub hl [0, 1, 2, 3, 4, 5, 6] rfl)
      · refine lv_bipush (v := (6 : Int32)) hx hb dX3_outcome_67 (by decide) ?_
        refine lv_goto (tgt := 76) hx hb dX3_outcome_69 (by decide) ?_
        exact w_X3_outcome_76 hg_X3_outcome hr4 hM hr hlk h (fun t0 e => k0 t0 e) (fun S x6 x7 x8 e => k1 S x6 x7 x8 e) hG (lv_sub hl [0, 1, 2, 3, 4, 5, 6] rfl)
theorem wl_X3_outcome_48 {d : Nat} {g_X3_outcome : xSt → Int32 → Int32 → Int32 → Option (xSt × Int32)} (hg_X3_outcome : ∀ (S : xSt) (x1 : Int32) (x2 : Int32) (x3 : Int32) (S' : xSt) (v' : Int32), g_X3_outcome S x1 x2 x3 = some (S', v') → ∀ sz : Nat, Met l yX3_outcome (Cond.code yX3_outcome cX3_outcome 11 (some .int) :: xTB) ({ frames := 5 + d, cells := 0, slots := 0, locals := 124 + d * 30 } : Room) (va_Pc [.ref (a 93), .int x1, .int x2, .int x3] (xPre D cy xtb a z S sz)) (xQi D cy xtb a S' v' sz) 0 0 (xA xtb a sz)) {x1 : Int32} {r4 : Nat} (hr4 : xIs_X4 r4) {x5 : Int32} (hM : xM p c cX3_outcome m s args RX3 11 D cy xtb a z) (hr : meth.sig.returnType = (some .int)) (hlk : meth.locks = false) {S' : xSt} {v' : Int32} {q : (xSt × Int32)} (k0 : ∀ t0 : xSt × Int32, q = t0 → t0 = (S', v')) (n : Nat) : ∀ (S : xSt) (x6 : Int32) (x7 : Int32) (x8 : Int32) (H : Heap) (locs : List Loc) (ls : Array Slot), xlp (fun q : (xSt × Int32 × Int32 × Int32) => f_X3_outcome_48 g_X3_outcome x1 r4 x5 q.1 q.2.1 q.2.2.1 q.2.2.2) n (S, x6, x7, x8) = some q → xG D cy xtb a S s H locs → lv_has ls 11 [(0, .ref (a 93)), (1, .int x1), (4, .ref (a r4)), (5, .int x5), (6, .int x6), (7, .int x7), (8, .int x8)] → W p l e ({ frames := 5 + (d + 1), cells := 0, slots := 0, locals := 124 + (d + 1) * 30 } : Room) s m args below meth c H locs 0 0 (MQ below (xQi D cy xtb a S' v' s.heap.size) args s 0 0 (xA xtb a s.heap.size)) (F0 m 48 ls []) := by
  induction n with
  | zero => intro S x6 x7 x8 H locs ls h; exact (xlp_0 h).elim
  | succ n ih =>
    intro S x6 x7 x8 H locs ls h hG hl
    obtain ⟨q1, hq, hc, he⟩ := xlp_at h
    exact w_X3_outcome_48 hg_X3_outcome hr4 hM hr hlk (q := q1) hq (fun t0 e => k0 t0 (he _ e).symm) (fun S x6 x7 x8 e H locs ls hG hl => ih S x6 x7 x8 H locs ls (hc _ e) hG hl) hG hl
set_option maxHeartbeats 4000000 in
set_option maxRecDepth 100000 in
theorem w_X3_outcome_37 {d : Nat} {g_X3_outcome : xSt → Int32 → Int32 → Int32 → Option (xSt × Int32)} (hg_X3_outcome : ∀ (S : xSt) (x1 : Int32) (x2 : Int32) (x3 : Int32) (S' : xSt) (v' : Int32), g_X3_outcome S x1 x2 x3 = some (S', v') → ∀ sz : Nat, Met l yX3_outcome (Cond.code yX3_outcome cX3_outcome 11 (some .int) :: xTB) ({ frames := 5 + d, cells := 0, slots := 0, locals := 124 + d * 30 } : Room) (va_Pc [.ref (a 93), .int x1, .int x2, .int x3] (xPre D cy xtb a z S sz)) (xQi D cy xtb a S' v' sz) 0 0 (xA xtb a sz)) {x1 : Int32} {x2 : Int32} {x3 : Int32} {r4 : Nat} (hr4 : xIs_X4 r4) {y0 : Int32} (hM : xM p c cX3_outcome m s args RX3 11 D cy xtb a z) (hr : meth.sig.returnType = (some .int)) (hlk : meth.locks = false) {S' : xSt} {v' : Int32} {S : xSt} {q : (xSt × Int32)} (h : f_X3_outcome_37 g_X3_outcome x1 x2 x3 r4 y0 S = some q) (k0 : ∀ t0 : xSt × Int32, q = t0 → t0 = (S', v')) {H : Heap} {locs : List Loc} (hG : xG D cy xtb a S s H locs) {ls : Array Slot} (hl : lv_has ls 11 [(0, .ref (a 93)), (1, .int x1), (2, .int x2), (3, .int x3), (4, .ref (a r4))]) : W p l e ({ frames := 5 + (d + 1), cells := 0, slots := 0, locals := 124 + (d + 1) * 30 } : Room) s m args below meth c H locs 0 0 (MQ below (xQi D cy xtb a S' v' s.heap.size) args s 0 0 (xA xtb a s.heap.size)) (F0 m 37 ls [.int y0]) := by
  have hx := hM.1
  have hb := hM.2.1
  refine lv_istore (lv' := [(5, .int y0), (0, .ref (a 93)), (1, .int x1), (2, .int x2), (3, .int x3), (4, .ref (a r4))]) hx hb dX3_outcome_37 hl (by decide) rfl (fun ls hl => ?_)
  refine lv_iload_n hx hb dX3_outcome_39 rfl (lv_at hl 3 rfl) ?_
  refine lv_istore (lv' := [(6, .int x2), (5, .int y0), (0, .ref (a 93)), (1, .int x1), (2, .int x2), (3, .int x3), (4, .ref (a r4))]) hx hb dX3_outcome_40 hl (by decide) rfl (fun ls hl => ?_)
  refine lv_iload_n hx hb dX3_outcome_42 rfl (lv_at hl 5 rfl) ?_
  refine lv_istore (lv' := [(7, .int x3), (6, .int x2), (5, .int y0), (0, .ref (a 93)), (1, .int x1), (2, .int x2), (3, .int x3), (4, .ref (a r4))]) hx hb dX3_outcome_43 hl (by decide) rfl (fun ls hl => ?_)
  refine lv_iconst (v := (0 : Int32)) hx hb dX3_outcome_45 (by decide) ?_
  refine lv_istore (lv' := [(8, .int (0 : Int32)), (7, .int x3), (6, .int x2), (5, .int y0), (0, .ref (a 93)), (1, .int x1), (2, .int x2), (3, .int x3), (4, .ref (a r4))]) hx hb dX3_outcome_46 hl (by decide) rfl (fun ls hl => ?_)
  exact wl_X3_outcome_48 hg_X3_outcome hr4 hM hr hlk (fun t0 e => k0 t0 e) 5000 _ _ _ _ _ _ _ h hG (lv_sub hl [4, 5, 8, 3, 2, 1, 0] rfl)
set_option maxHeartbeats 4000000 in
set_option maxRecDepth 100000 in
theorem w_X3_outcome_0 {d : Nat} {g_X3_outcome : xSt → Int32 → Int32 → Int32 → Option (xSt × Int32)} (hg_X3_outcome : ∀ (S : xSt) (x1 : Int32) (x2 : Int32) (x3 : Int32) (S' : xSt) (v' : Int32), g_X3_outcome S x1 x2 x3 = some (S', v') → ∀ sz : Nat, Met l yX3_outcome (Cond.code yX3_outcome cX3_outcome 11 (some .int) :: xTB) ({ frames := 5 + d, cells := 0, slots := 0, locals := 124 + d * 30 } : Room) (va_Pc [.ref (a 93), .int x1, .int x2, .int x3] (xPre D cy xtb a z S sz)) (xQi D cy xtb a S' v' sz) 0 0 (xA xtb a sz)) {x1 : Int32} {x2 : Int32} {x3 : Int32} (hM : xM p c cX3_outcome m s args RX3 11 D cy xtb a z) (hr : meth.sig.returnType = (some .int)) (hlk : meth.locks = false) {S' : xSt} {v' : Int32} {S : xSt} {q : (xSt × Int32)} (h : f_X3_outcome_0 g_X3_outcome x1 x2 x3 S = some q) (k0 : ∀ t0 : xSt × Int32, q = t0 → t0 = (S', v')) {H : Heap} {locs : List Loc} (hG : xG D cy xtb a S s H locs) {ls : Array Slot} (hl : lv_has ls 11 [(0, .ref (a 93)), (1, .int x1), (2, .int x2), (3, .int x3)]) : W p l e ({ frames := 5 + (d + 1), cells := 0, slots := 0, locals := 124 + (d + 1) * 30 } : Room) s m args below meth c H locs 0 0 (MQ below (xQi D cy xtb a S' v' s.heap.size) args s 0 0 (xA xtb a s.heap.size)) (F0 m 0 ls []) := by
  have hx := hM.1
  have hb := hM.2.1
  refine lv_aload_n hx hb dX3_outcome_0 rfl (lv_at hl 0 rfl) ?_
  refine x_gr (r := 94) hM hG xfl_X3_13 xct_93 (by decide) rfl dX3_outcome_1 ?_
  refine lv_iload_n hx hb dX3_outcome_4 rfl (lv_at hl 1 rfl) ?_
  refine x_aald4 hM hG xct_94 h dX3_outcome_5 (fun hi_1 h => ?_)
  refine lv_astore (lv' := [(4, .ref (a (46 + 10 * x1.toNatClampNeg))), (0, .ref (a 93)), (1, .int x1), (2, .int x2), (3, .int x3)]) hx hb dX3_outcome_6 hl (by decide) rfl (fun ls hl => ?_)
  refine lv_iload_n hx hb dX3_outcome_8 rfl (lv_at hl 2 rfl) ?_
  refine lv_aload_n hx hb dX3_outcome_9 rfl (lv_at hl 1 rfl) ?_
  refine x_gi hM hG xfl_X3_41 xct_93 (by decide) rfl h dX3_outcome_10 (fun v_2 h => ?_)
  refine x_icmp_lt (tgt := 26) hM h dX3_outcome_13 (by decide) (fun c_3 h => ?_) (fun c_3 h => ?_)
  · refine lv_iload_n hx hb dX3_outcome_26 rfl (lv_at hl 2 rfl) ?_
    refine lv_iconst (v := (2 : Int32)) hx hb dX3_outcome_27 (by decide) ?_
    refine x_irem hM h dX3_outcome_28 (fun v_4 h => ?_)
    refine x_if_ne (tgt := 36) hM h dX3_outcome_29 (by decide) (fun c_5 h => ?_) (fun c_5 h => ?_)
    · refine lv_iconst (v := (0 : Int32)) hx hb dX3_outcome_36 (by decide) ?_
      exact w_X3_outcome_37 hg_X3_outcome (xih_view hi_1) hM hr hlk h (fun t0 e => k0 t0 e) hG (lv_sub hl [1, 2, 3, 4, 0] rfl)
    · refine lv_iconst (v := (1 : Int32)) hx hb dX3_outcome_32 (by decide) ?_
      refine lv_goto (tgt := 37) hx hb dX3_outcome_33 (by decide) ?_
      exact w_X3_outcome_37 hg_X3_outcome (xih_view hi_1) hM hr hlk h (fun t0 e => k0 t0 e) hG (lv_sub hl [1, 2, 3, 4, 0] rfl)
  · refine lv_aload hx hb dX3_outcome_16 (lv_at hl 0 rfl) ?_
    refine lv_aload_n hx hb dX3_outcome_18 rfl (lv_at hl 1 rfl) ?_
    refine x_gi hM hG xfl_X3_44 xct_93 (by decide) rfl h dX3_outcome_19 (fun v_6 h => ?_)
    refine x_cVi (As := [.int v_6]) (rest := []) hM hG xml_X3_59 xwi_X4_hottestBehind xws_X4_hottestBehind (xih_view hi_1).1 (by decide) rfl h (fun S' v e => c_X4_hottestBehind hM.2.2.2.2.2.2.1 (xih_view hi_1) e _) ⟨by show _ ≤ 5 + (d + 1); omega, by show _ ≤ 124 + (d + 1) * 30; omega⟩ rfl hl.1 rfl (Nat.le_of_ble_eq_true rfl) dX3_outcome_22 (fun S_7 v_8 H locs h hG => ?_)
    exact x_ri hM hG hr hlk rfl (k0 _ (Option.some.inj h).symm) dX3_outcome_25
set_option maxHeartbeats 4000000 in
set_option maxRecDepth 100000 in
theorem cr_F_X3_outcome {l : Launch} {D : va_G} {cy : Nat → ClassId} {a z : Nat → Nat} (hI : xI xtb a) : ∀ d : Nat, (∀ (S : xSt) (x1 : Int32) (x2 : Int32) (x3 : Int32) (S' : xSt) (v' : Int32), f_X3_outcome d S x1 x2 x3 = some (S', v') → ∀ sz : Nat, Met l yX3_outcome (Cond.code yX3_outcome cX3_outcome 11 (some .int) :: xTB) ({ frames := 5 + d, cells := 0, slots := 0, locals := 124 + d * 30 } : Room) (va_Pc [.ref (a 93), .int x1, .int x2, .int x3] (xPre D cy xtb a z S sz)) (xQi D cy xtb a S' v' sz) 0 0 (xA xtb a sz)) := by
  intro d
  induction d with
  | zero => exact (fun _ _ _ _ _ _ h => by cases h)
  | succ d ih =>
    have ih0 := ih
    intro S x1 x2 x3 S' v' hf sz
    refine Met.ofW (cc := cX3_outcome) (maxL := 11) (ret := (some .int)) (by decide) rfl ?_
    intro p e s m args below meth c s₁ B hml hv
    obtain ⟨rfl, hsz, hP, hK, hE⟩ := hv
    subst hsz
    have hl := lv_entry ([.ref (a 93), .int x1, .int x2, .int x3]) (n := 11) (Nat.le_of_ble_eq_true rfl)
    rw [lg_entry_eq]
    generalize (lg_sl ([.ref (a 93), .int x1, .int x2, .int x3]) ++ List.replicate (11 - (lg_sl ([.ref (a 93), .int x1, .int x2, .int x3])).length) Slot.unset).toArray = ls at hl ⊢
    have hl : lv_has ls 11 [(0, .ref (a 93)), (1, .int x1), (2, .int x2), (3, .int x3)] := hl
    exact w_X3_outcome_0 ih0 ⟨B.exec, B.bytes, hml, findClass_of_methodNamed B.named, fun w hw => atoms_spec (ws := Cond.code yX3_outcome cX3_outcome 11 (some .int) :: xTB) B.pre w (List.mem_cons_of_mem _ hw), hK, hI, hE⟩ B.returns B.notSynchronized hf (fun t0 e => e.symm) ⟨hP, va_S.rf⟩ (lv_sub hl [0, 1, 2, 3] rfl)
theorem c_X3_outcome {l : Launch} {D : va_G} {cy : Nat → ClassId} {a z : Nat → Nat} (hI : xI xtb a) (d : Nat) {S : xSt} {x1 : Int32} {x2 : Int32} {x3 : Int32} {S' : xSt} {v' : Int32} (hf : f_X3_outcome d S x1 x2 x3 = some (S', v')) (sz : Nat) : Met l yX3_outcome (Cond.code yX3_outcome cX3_outcome 11 (some .int) :: xTB) ({ frames := 5 + d, cells := 0, slots := 0, locals := 124 + d * 30 } : Room) (va_Pc [.ref (a 93), .int x1, .int x2, .int x3] (xPre D cy xtb a z S sz)) (xQi D cy xtb a S' v' sz) 0 0 (xA xtb a sz) := (cr_F_X3_outcome hI d) _ _ _ _ _ _ hf sz
set_option maxHeartbeats 4000000 in
set_option maxRecDepth 100000 in
theorem w_X3_play_0 {x1 : Int32} {x2 : Int32} (hM : xM p c cX3_play m s args RX3 3 D cy xtb a z) (hr : meth.sig.returnType = none) (hlk : meth.locks = false) {S' : xSt} {v' : Unit} {S : xSt} {q : (xSt × Unit)} (h : f_X3_play_0 x1 x2 S = some q) (k0 : ∀ t0 : xSt × Unit, q = t0 → t0 = (S', v')) {H : Heap} {locs : List Loc} (hG : xG D cy xtb a S s H locs) {ls : Array Slot} (hl : lv_has ls 3 [(0, .ref (a 93)), (1, .int x1), (2, .int x2)]) : W p l e ({ frames := 11, cells := 0, slots := 0, locals := 304 } : Room) s m args below meth c H locs 0 0 (MQ below (xQv D cy xtb a S' v' s.heap.size) args s 0 0 (xA xtb a s.heap.size)) (F0 m 0 ls []) := by
  have hx := hM.1
  have hb := hM.2.1
  refine lv_aload_n hx hb dX3_play_0 rfl (lv_at hl 0 rfl) ?_
  refine lv_bipush (v := (-2 : Int32)) hx hb dX3_play_1 (by decide) ?_
  refine x_pi hM hG xfl_X3_24 xfp_X3_4 xct_93 (by decide) rfl rfl rfl h dX3_play_3 (fun S_1 H locs h hG => ?_)
  refine lv_aload_n hx hb dX3_play_6 rfl (lv_at hl 0 rfl) ?_
  refine lv_bipush (v := (-2 : Int32)) hx hb dX3_play_7 (by decide) ?_
  refine x_pi hM hG xfl_X3_28 xfp_X3_5 xct_93 (by decide) rfl rfl rfl h dX3_play_9 (fun S_2 H locs h hG => ?_)
  refine lv_aload_n hx hb dX3_play_12 rfl (lv_at hl 0 rfl) ?_
  refine x_gr (r := 16) hM hG xfl_X3_17 xct_93 (by decide) rfl dX3_play_13 ?_
  refine x_cVi (As := []) (rest := []) hM hG xml_X3_31 xwi_X4_cells xws_X4_cells xih_hay.1 (by decide) rfl h (fun S' v e => c_X4_cells hM.2.2.2.2.2.2.1 xih_hay e _) ⟨Nat.le_of_ble_eq_true rfl, Nat.le_of_ble_eq_true rfl⟩ rfl hl.1 rfl (Nat.le_of_ble_eq_true rfl) dX3_play_16 (fun S_3 v_4 H locs h hG => ?_)
  refine x_if_le (tgt := 66) hM h dX3_play_19 (by decide) (fun c_5 h => ?_) (fun c_5 h => ?_)
  · exact x_rv hM hG hr hlk (k0 _ (Option.some.inj h).symm) dX3_play_66
  · refine lv_aload_n hx hb dX3_play_22 rfl (lv_at hl 0 rfl) ?_
    refine lv_iconst (v := (3 : Int32)) hx hb dX3_play_23 (by decide) ?_
    refine lv_iload_n hx hb dX3_play_24 rfl (lv_at hl 1 rfl) ?_
    refine x_mmin hM hl.1 xmm_X3_35 h (Nat.le_of_ble_eq_true rfl) (Nat.le_of_ble_eq_true rfl) dX3_play_25 (fun v_6 h => ?_)
    refine x_pi hM hG xfl_X3_41 xfp_X3_2 xct_93 (by decide) rfl rfl rfl h dX3_play_28 (fun S_7 H locs h hG => ?_)
    refine lv_aload_n hx hb dX3_play_31 rfl (lv_at hl 0 rfl) ?_
    refine lv_iload_n hx hb dX3_play_32 rfl (lv_at hl 2 rfl) ?_
    refine x_pi hM hG xfl_X3_44 xfp_X3_3 xct_93 (by decide) rfl rfl rfl h dX3_play_33 (fun S_8 H locs h hG => ?_)
    refine lv_aload_n hx hb dX3_play_36 rfl (lv_at hl 0 rfl) ?_
    refine x_gr (r := 94) hM hG xfl_X3_13 xct_93 (by decide) rfl dX3_play_37 ?_
    refine lv_iconst (v := (0 : Int32)) hx hb dX3_play_40 (by decide) ?_
    refine x_aald4 hM hG xct_94 h dX3_play_41 (fun hi_9 h => ?_)
    refine lv_aload_n hx hb dX3_play_42 rfl (lv_at hl 0 rfl) ?_
    refine x_gr (r := 16) hM hG xfl_X3_17 xct_93 (by decide) rfl dX3_play_43 ?_
    refine x_cVv (As := [.ref (a 16)]) (rest := []) hM hG xml_X3_47 xwi_X4_takeAll xws_X4_takeAll (xih_view hi_9).1 (by decide) rfl h (fun S' v e => c_X4_takeAll hM.2.2.2.2.2.2.1 (xih_view hi_9) xih_hay e _) ⟨Nat.le_of_ble_eq_true rfl, Nat.le_of_ble_eq_true rfl⟩ rfl hl.1 rfl (Nat.le_of_ble_eq_true rfl) dX3_play_46 (fun S_10 v_11 H locs h hG => ?_)
    refine lv_aload_n hx hb dX3_play_49 rfl (lv_at hl 0 rfl) ?_
    refine lv_aload_n hx hb dX3_play_50 rfl (lv_at hl 0 rfl) ?_
    refine lv_iconst (v := (0 : Int32)) hx hb dX3_play_51 (by decide) ?_
    refine lv_iconst (v := (-1 : Int32)) hx hb dX3_play_52 (by decide) ?_
    refine x_gsN hM hG hM.2.2.2.2.2.2.2.2.2 hM.2.2.2.2.2.2.2.1.2.2.2.2 dX3_play_53 ?_
    refine lv_iconst (v := (1 : Int32)) hx hb dX3_play_56 (by decide) ?_
    refine x_tald hM hG hM.2.2.2.2.2.2.2.2.2 h dX3_play_57 (fun v_12 h => ?_)
    refine lv_iconst (v := (1 : Int32)) hx hb dX3_play_58 (by decide) ?_
    refine x_iadd hM h dX3_play_59 (fun v_13 h => ?_)
    refine x_cVi (As := [.int (0 : Int32), .int (-1 : Int32), .int v_13]) (rest := [.ref (a 93)]) hM hG xml_X3_55 xwi_X3_outcome xws_X3_outcome xct_93 (by decide) rfl h (fun S' v e => c_X3_outcome hM.2.2.2.2.2.2.1 5 e _) ⟨Nat.le_of_ble_eq_true rfl, Nat.le_of_ble_eq_true rfl⟩ rfl hl.1 rfl (Nat.le_of_ble_eq_true rfl) dX3_play_60 (fun S_14 v_15 H locs h hG => ?_)
    refine x_pi hM hG xfl_X3_24 xfp_X3_4 xct_93 (by decide) rfl rfl rfl h dX3_play_63 (fun S_16 H locs h hG => ?_)
    exact x_rv hM hG hr hlk (k0 _ (Option.some.inj h).symm) dX3_play_66
set_option maxHeartbeats 4000000 in
set_option maxRecDepth 100000 in
theorem c_X3_play {l : Launch} {D : va_G} {cy : Nat → ClassId} {a z : Nat → Nat} (hI : xI xtb a) {S : xSt} {x1 : Int32} {x2 : Int32} {S' : xSt} {v' : Unit} (hf : f_X3_play S x1 x2 = some (S', v')) (sz : Nat) : Met l yX3_play (Cond.code yX3_play cX3_play 3 none :: xTB) ({ frames := 11, cells := 0, slots := 0, locals := 304 } : Room) (va_Pc [.ref (a 93), .int x1, .int x2] (xPre D cy xtb a z S sz)) (xQv D cy xtb a S' v' sz) 0 0 (xA xtb a sz) := by
  refine Met.ofW (cc := cX3_play) (maxL := 3) (ret := none) (by decide) rfl ?_
  intro p e s m args below meth c s₁ B hml hv
  obtain ⟨rfl, hsz, hP, hK, hE⟩ := hv
  subst hsz
  have hl := lv_entry ([.ref (a 93), .int x1, .int x2]) (n := 3) (Nat.le_of_ble_eq_true rfl)
  rw [lg_entry_eq]
  generalize (lg_sl ([.ref (a 93), .int x1, .int x2]) ++ List.replicate (3 - (lg_sl ([.ref (a 93), .int x1, .int x2])).length) Slot.unset).toArray = ls at hl ⊢
  have hl : lv_has ls 3 [(0, .ref (a 93)), (1, .int x1), (2, .int x2)] := hl
  exact w_X3_play_0 ⟨B.exec, B.bytes, hml, findClass_of_methodNamed B.named, fun w hw => atoms_spec (ws := Cond.code yX3_play cX3_play 3 none :: xTB) B.pre w (List.mem_cons_of_mem _ hw), hK, hI, hE⟩ B.returns B.notSynchronized hf (fun t0 e => e.symm) ⟨hP, va_S.rf⟩ (lv_sub hl [0, 1, 2] rfl)
set_option maxHeartbeats 4000000 in
set_option maxRecDepth 100000 in
theorem w_X4_numberOf_0 {o : Nat} (ho : xIs_X4 o) {x1 : Int32} {x2 : Int32} (hM : xM p c cX4_numberOf m s args RX4 3 D cy xtb a z) (hr : meth.sig.returnType = (some .int)) (hlk : meth.locks = false) {S' : xSt} {v' : Int32} {S : xSt} {q : (xSt × Int32)} (h : f_X4_numberOf_0 o x1 x2 S = some q) (k0 : ∀ t0 : xSt × Int32, q = t0 → t0 = (S', v')) {H : Heap} {locs : List Loc} (hG : xG D cy xtb a S s H locs) {ls : Array Slot} (hl : lv_has ls 3 [(0, .ref (a o)), (1, .int x1), (2, .int x2)]) : W p l e ({ frames := 0, cells := 0, slots := 0, locals := 0 } : Room) s m args below meth c H locs 0 0 (MQ below (xQi D cy xtb a S' v' s.heap.size) args s 0 0 (xA xtb a s.heap.size)) (F0 m 0 ls []) := by
  have hx := hM.1
  have hb := hM.2.1
  refine lv_iload_n hx hb dX4_numberOf_0 rfl (lv_at hl 2 rfl) ?_
  by_cases c_1 : x2 = (0 : Int32)
  · have h := (if_pos c_1).symm.trans h
    refine lv_tableIn (off := 43) (tgt := 44) hx hb dX4_numberOf_1 (by rw [c_1]; decide) (by rw [c_1]; decide) (by rw [c_1]; rfl) (by decide) ?_
    refine lv_aload_n hx hb dX4_numberOf_44 rfl (lv_at hl 0 rfl) ?_
    refine x_gr (r := o + 3) hM hG xfl_X4_18 ho.1 (by decide) rfl dX4_numberOf_45 ?_
    refine lv_iload_n hx hb dX4_numberOf_48 rfl (lv_at hl 1 rfl) ?_
    refine x_iald hM hG ho.2.2.2.1 h dX4_numberOf_49 (fun v_2 h => ?_)
    exact x_ri hM hG hr hlk rfl (k0 _ (Option.some.inj h).symm) dX4_numberOf_50
  · have h := (if_neg c_1).symm.trans h
    by_cases c_3 : x2 = (1 : Int32)
    · have h := (if_pos c_3).symm.trans h
      refine lv_tableIn (off := 50) (tgt := 51) hx hb dX4_numberOf_1 (by rw [c_3]; decide) (by rw [c_3]; decide) (by rw [c_3]; rfl) (by decide) ?_
      refine lv_aload_n hx hb dX4_numberOf_51 rfl (lv_at hl 0 rfl) ?_
      refine x_gr (r := o + 4) hM hG xfl_X4_21 ho.1 (by decide) rfl dX4_numberOf_52 ?_
      refine lv_iload_n hx hb dX4_numberOf_55 rfl (lv_at hl 1 rfl) ?_
      refine x_iald hM hG ho.2.2.2.2.1 h dX4_numberOf_56 (fun v_4 h => ?_)
      exact x_ri hM hG hr hlk rfl (k0 _ (Option.some.inj h).symm) dX4_numberOf_57
    · have h := (if_neg c_3).symm.trans h
      by_cases c_5 : x2 = (2 : Int32)
      · have h := (if_pos c_5).symm.trans h
        refine lv_tableIn (off := 57) (tgt := 58) hx hb dX4_numberOf_1 (by rw [c_5]; decide) (by rw [c_5]; decide) (by rw [c_5]; rfl) (by decide) ?_
        refine lv_aload_n hx hb dX4_numberOf_58 rfl (lv_at hl 0 rfl) ?_
        refine x_gr (r := o + 5) hM hG xfl_X4_24 ho.1 (by decide) rfl dX4_numberOf_59 ?_
        refine lv_iload_n hx hb dX4_numberOf_62 rfl (lv_at hl 1 rfl) ?_
        refine x_iald hM hG ho.2.2.2.2.2.1 h dX4_numberOf_63 (fun v_6 h => ?_)
        exact x_ri hM hG hr hlk rfl (k0 _ (Option.some.inj h).symm) dX4_numberOf_64
      · have h := (if_neg c_5).symm.trans h
        by_cases c_7 : x2 = (3 : Int32)
        · have h := (if_pos c_7).symm.trans h
          refine lv_tableIn (off := 64) (tgt := 65) hx hb dX4_numberOf_1 (by rw [c_7]; decide) (by rw [c_7]; decide) (by rw [c_7]; rfl) (by decide) ?_
          refine lv_aload_n hx hb dX4_numberOf_65 rfl (lv_at hl 0 rfl) ?_
          refine x_gr (r := o + 6) hM hG xfl_X4_27 ho.1 (by decide) rfl dX4_numberOf_66 ?_
          refine lv_iload_n hx hb dX4_numberOf_69 rfl (lv_at hl 1 rfl) ?_
          refine x_iald hM hG ho.2.2.2.2.2.2.1 h dX4_numberOf_70 (fun v_8 h => ?_)
          exact x_ri hM hG hr hlk rfl (k0 _ (Option.some.inj h).symm) dX4_numberOf_71
        · have h := (if_neg c_7).symm.trans h
          by_cases c_9 : x2 = (4 : Int32)
          · have h := (if_pos c_9).symm.trans h
            refine lv_tableIn (off := 71) (tgt := 72) hx hb dX4_numberOf_1 (by rw [c_9]; decide) (by rw [c_9]; decide) (by rw [c_9]; rfl) (by decide) ?_
            refine lv_aload_n hx hb dX4_numberOf_72 rfl (lv_at hl 0 rfl) ?_
            refine x_gr (r := o + 7) hM hG xfl_X4_30 ho.1 (by decide) rfl dX4_numberOf_73 ?_
            refine lv_iload_n hx hb dX4_numberOf_76 rfl (lv_at hl 1 rfl) ?_
            refine x_iald hM hG ho.2.2.2.2.2.2.2.1 h dX4_numberOf_77 (fun v_10 h => ?_)
            exact x_ri hM hG hr hlk rfl (k0 _ (Option.some.inj h).symm) dX4_numberOf_78
          · have h := (if_neg c_9).symm.trans h
            by_cases c_11 : x2 = (5 : Int32)
            · have h := (if_pos c_11).symm.trans h
              refine lv_tableIn (off := 78) (tgt := 79) hx hb dX4_numberOf_1 (by rw [c_11]; decide) (by rw [c_11]; decide) (by rw [c_11]; rfl) (by decide) ?_
              refine lv_aload_n hx hb dX4_numberOf_79 rfl (lv_at hl 0 rfl) ?_
              refine x_gr (r := o + 2) hM hG xfl_X4_15 ho.1 (by decide) rfl dX4_numberOf_80 ?_
              refine lv_iload_n hx hb dX4_numberOf_83 rfl (lv_at hl 1 rfl) ?_
              refine x_iald hM hG ho.2.2.1 h dX4_numberOf_84 (fun v_12 h => ?_)
              exact x_ri hM hG hr hlk rfl (k0 _ (Option.some.inj h).symm) dX4_numberOf_85
            · have h := (if_neg c_11).symm.trans h
              by_cases c_13 : x2 = (6 : Int32)
              · have h := (if_pos c_13).symm.trans h
                refine lv_tableIn (off := 85) (tgt := 86) hx hb dX4_numberOf_1 (by rw [c_13]; decide) (by rw [c_13]; decide) (by rw [c_13]; rfl) (by decide) ?_
                refine lv_aload_n hx hb dX4_numberOf_86 rfl (lv_at hl 0 rfl) ?_
                refine x_gi hM hG xfl_X4_39 ho.1 (by decide) rfl h dX4_numberOf_87 (fun v_14 h => ?_)
                exact x_ri hM hG hr hlk rfl (k0 _ (Option.some.inj h).symm) dX4_numberOf_90
              · have h := (if_neg c_13).symm.trans h
                refine lv_tableOut (tgt := 91) hx hb dX4_numberOf_1 (x_tout [(0 : Int32), (1 : Int32), (2 : Int32), (3 : Int32), (4 : Int32), (5 : Int32), (6 : Int32)] 0 (by decide) (by decide) (List.forall_mem_cons.mpr ⟨c_1, (List.forall_mem_cons.mpr ⟨c_3, (List.forall_mem_cons.mpr ⟨c_5, (List.forall_mem_cons.mpr ⟨c_7, (List.forall_mem_cons.mpr ⟨c_9, (List.forall_mem_cons.mpr ⟨c_11, (List.forall_mem_cons.mpr ⟨c_13, (fun _ h => absurd h List.not_mem_nil)⟩)⟩)⟩)⟩)⟩)⟩)⟩)) (by decide) ?_
                refine lv_aload_n hx hb dX4_numberOf_91 rfl (lv_at hl 0 rfl) ?_
                refine x_gi hM hG xfl_X4_53 ho.1 (by decide) rfl h dX4_numberOf_92 (fun v_15 h => ?_)
                exact x_ri hM hG hr hlk rfl (k0 _ (Option.some.inj h).symm) dX4_numberOf_95
set_option maxHeartbeats 4000000 in
set_option maxRecDepth 100000 in
theorem c_X4_numberOf {l : Launch} {D : va_G} {cy : Nat → ClassId} {a z : Nat → Nat} (hI : xI xtb a) {o : Nat} (ho : xIs_X4 o) {S : xSt} {x1 : Int32} {x2 : Int32} {S' : xSt} {v' : Int32} (hf : f_X4_numberOf o S x1 x2 = some (S', v')) (sz : Nat) : Met l yX4_numberOf (Cond.code yX4_numberOf cX4_numberOf 3 (some .int) :: xTB) ({ frames := 0, cells := 0, slots := 0, locals := 0 } : Room) (va_Pc [.ref (a o), .int x1, .int x2] (xPre D cy xtb a z S sz)) (xQi D cy xtb a S' v' sz) 0 0 (xA xtb a sz) := by
  refine Met.ofW (cc := cX4_numberOf) (maxL := 3) (ret := (some .int)) (by decide) rfl ?_
  intro p e s m args below meth c s₁ B hml hv
  obtain ⟨rfl, hsz, hP, hK, hE⟩ := hv
  subst hsz
  have hl := lv_entry ([.ref (a o), .int x1, .int x2]) (n := 3) (Nat.le_of_ble_eq_true rfl)
  rw [lg_entry_eq]
  generalize (lg_sl ([.ref (a o), .int x1, .int x2]) ++ List.replicate (3 - (lg_sl ([.ref (a o), .int x1, .int x2])).length) Slot.unset).toArray = ls at hl ⊢
  have hl : lv_has ls 3 [(0, .ref (a o)), (1, .int x1), (2, .int x2)] := hl
  exact w_X4_numberOf_0 ho ⟨B.exec, B.bytes, hml, findClass_of_methodNamed B.named, fun w hw => atoms_spec (ws := Cond.code yX4_numberOf cX4_numberOf 3 (some .int) :: xTB) B.pre w (List.mem_cons_of_mem _ hw), hK, hI, hE⟩ B.returns B.notSynchronized hf (fun t0 e => e.symm) ⟨hP, va_S.rf⟩ (lv_sub hl [0, 1, 2] rfl)
set_option maxHeartbeats 4000000 in
set_option maxRecDepth 100000 in
theorem w_X4_pileOn_0 {o : Nat} (ho : xIs_X4 o) {x1 : Int32} {x2 : Int32} {x3 : Int32} (hM : xM p c cX4_pileOn m s args RX4 5 D cy xtb a z) (hr : meth.sig.returnType = (some .int)) (hlk : meth.locks = false) {S' : xSt} {v' : Int32} {S : xSt} {q : (xSt × Int32)} (h : f_X4_pileOn_0 o x1 x2 x3 S = some q) (k0 : ∀ t0 : xSt × Int32, q = t0 → t0 = (S', v')) {H : Heap} {locs : List Loc} (hG : xG D cy xtb a S s H locs) {ls : Array Slot} (hl : lv_has ls 5 [(0, .ref (a o)), (1, .int x1), (2, .int x2), (3, .int x3)]) : W p l e ({ frames := 0, cells := 0, slots := 0, locals := 0 } : Room) s m args below meth c H locs 0 0 (MQ below (xQi D cy xtb a S' v' s.heap.size) args s 0 0 (xA xtb a s.heap.size)) (F0 m 0 ls []) := by
  have hx := hM.1
  have hb := hM.2.1
  refine lv_aload_n hx hb dX4_pileOn_0 rfl (lv_at hl 0 rfl) ?_
  refine x_gr (r := o + 1) hM hG xfl_X4_9 ho.1 (by decide) rfl dX4_pileOn_1 ?_
  refine lv_iload_n hx hb dX4_pileOn_4 rfl (lv_at hl 1 rfl) ?_
  refine x_iald hM hG ho.2.1 h dX4_pileOn_5 (fun v_1 h => ?_)
  refine lv_iconst (v := (5 : Int32)) hx hb dX4_pileOn_6 (by decide) ?_
  refine x_icmp_lt (tgt := 13) hM h dX4_pileOn_7 (by decide) (fun c_2 h => ?_) (fun c_2 h => ?_)
  · refine lv_iload_n hx hb dX4_pileOn_13 rfl (lv_at hl 1 rfl) ?_
    refine lv_iconst (v := (5 : Int32)) hx hb dX4_pileOn_14 (by decide) ?_
    refine x_imul hM h dX4_pileOn_15 (fun v_3 h => ?_)
    refine lv_aload_n hx hb dX4_pileOn_16 rfl (lv_at hl 0 rfl) ?_
    refine x_gr (r := o + 1) hM hG xfl_X4_9 ho.1 (by decide) rfl dX4_pileOn_17 ?_
    refine lv_iload_n hx hb dX4_pileOn_20 rfl (lv_at hl 1 rfl) ?_
    refine x_iald hM hG ho.2.1 h dX4_pileOn_21 (fun v_4 h => ?_)
    refine x_iadd hM h dX4_pileOn_22 (fun v_5 h => ?_)
    refine lv_istore (lv' := [(4, .int v_5), (0, .ref (a o)), (1, .int x1), (2, .int x2), (3, .int x3)]) hx hb dX4_pileOn_23 hl (by decide) rfl (fun ls hl => ?_)
    refine lv_aload_n hx hb dX4_pileOn_25 rfl (lv_at hl 1 rfl) ?_
    refine x_gr (r := o + 3) hM hG xfl_X4_18 ho.1 (by decide) rfl dX4_pileOn_26 ?_
    refine lv_iload hx hb dX4_pileOn_29 (lv_at hl 0 rfl) ?_
    refine lv_iload_n hx hb dX4_pileOn_31 rfl (lv_at hl 3 rfl) ?_
    refine x_iast hM hG ho.2.2.2.1 h dX4_pileOn_32 (fun S_6 H locs h hG => ?_)
    refine lv_aload_n hx hb dX4_pileOn_33 rfl (lv_at hl 1 rfl) ?_
    refine x_gr (r := o + 4) hM hG xfl_X4_21 ho.1 (by decide) rfl dX4_pileOn_34 ?_
    refine lv_iload hx hb dX4_pileOn_37 (lv_at hl 0 rfl) ?_
    refine lv_bipush (v := (20 : Int32)) hx hb dX4_pileOn_39 (by decide) ?_
    refine x_iast hM hG ho.2.2.2.2.1 h dX4_pileOn_41 (fun S_7 H locs h hG => ?_)
    refine lv_aload_n hx hb dX4_pileOn_42 rfl (lv_at hl 1 rfl) ?_
    refine x_gr (r := o + 5) hM hG xfl_X4_24 ho.1 (by decide) rfl dX4_pileOn_43 ?_
    refine lv_iload hx hb dX4_pileOn_46 (lv_at hl 0 rfl) ?_
    refine lv_bipush (v := (99 : Int32)) hx hb dX4_pileOn_48 (by decide) ?_
    refine x_iast hM hG ho.2.2.2.2.2.1 h dX4_pileOn_50 (fun S_8 H locs h hG => ?_)
    refine lv_aload_n hx hb dX4_pileOn_51 rfl (lv_at hl 1 rfl) ?_
    refine x_gr (r := o + 6) hM hG xfl_X4_27 ho.1 (by decide) rfl dX4_pileOn_52 ?_
    refine lv_iload hx hb dX4_pileOn_55 (lv_at hl 0 rfl) ?_
    refine lv_iconst (v := (0 : Int32)) hx hb dX4_pileOn_57 (by decide) ?_
    refine x_iast hM hG ho.2.2.2.2.2.2.1 h dX4_pileOn_58 (fun S_9 H locs h hG => ?_)
    refine lv_aload_n hx hb dX4_pileOn_59 rfl (lv_at hl 1 rfl) ?_
    refine x_gr (r := o + 7) hM hG xfl_X4_30 ho.1 (by decide) rfl dX4_pileOn_60 ?_
    refine lv_iload hx hb dX4_pileOn_63 (lv_at hl 0 rfl) ?_
    refine lv_iload_n hx hb dX4_pileOn_65 rfl (lv_at hl 4 rfl) ?_
    refine x_iast hM hG ho.2.2.2.2.2.2.2.1 h dX4_pileOn_66 (fun S_10 H locs h hG => ?_)
    refine lv_aload_n hx hb dX4_pileOn_67 rfl (lv_at hl 1 rfl) ?_
    refine x_gr (r := o + 1) hM hG xfl_X4_9 ho.1 (by decide) rfl dX4_pileOn_68 ?_
    refine lv_iload_n hx hb dX4_pileOn_71 rfl (lv_at hl 2 rfl) ?_
    refine lv_dup2_11 hx hb dX4_pileOn_72 rfl rfl ?_
    refine x_iald hM hG ho.2.1 h dX4_pileOn_73 (fun v_11 h => ?_)
    refine lv_iconst (v := (1 : Int32)) hx hb dX4_pileOn_74 (by decide) ?_
    refine x_iadd hM h dX4_pileOn_75 (fun v_12 h => ?_)
    refine x_iast hM hG ho.2.1 h dX4_pileOn_76 (fun S_13 H locs h hG => ?_)
    refine lv_iload hx hb dX4_pileOn_77 (lv_at hl 0 rfl) ?_
    exact x_ri hM hG hr hlk rfl (k0 _ (Option.some.inj h).symm) dX4_pileOn_79
  · refine lv_bipush (v := (-3 : Int32)) hx hb dX4_pileOn_10 (by decide) ?_
    exact x_ri hM hG hr hlk rfl (k0 _ (Option.some.inj h).symm) dX4_pileOn_12
set_option maxHeartbeats 4000000 in
set_option maxRecDepth 100000 in
theorem c_X4_pileOn {l : Launch} {D : va_G} {cy : Nat → ClassId} {a z : Nat → Nat} (hI : xI xtb a) {o : Nat} (ho : xIs_X4 o) {S : xSt} {x1 : Int32} {x2 : Int32} {x3 : Int32} {S' : xSt} {v' : Int32} (hf : f_X4_pileOn o S x1 x2 x3 = some (S', v')) (sz : Nat) : Met l yX4_pileOn (Cond.code yX4_pileOn cX4_pileOn 5 (some .int) :: xTB) ({ frames := 0, cells := 0, slots := 0, locals := 0 } : Room) (va_Pc [.ref (a o), .int x1, .int x2, .int x3] (xPre D cy xtb a z S sz)) (xQi D cy xtb a S' v' sz) 0 0 (xA xtb a sz) := by
  refine Met.ofW (cc := cX4_pileOn) (maxL := 5) (ret := (some .int)) (by decide) rfl ?_
  intro p e s m args below meth c s₁ B hml hv
  obtain ⟨rfl, hsz, hP, hK, hE⟩ := hv
  subst hsz
  have hl := lv_entry ([.ref (a o), .int x1, .int x2, .int x3]) (n := 5) (Nat.le_of_ble_eq_true rfl)
  rw [lg_entry_eq]
  generalize (lg_sl ([.ref (a o), .int x1, .int x2, .int x3]) ++ List.replicate (5 - (lg_sl ([.ref (a o), .int x1, .int x2, .int x3])).length) Slot.unset).toArray = ls at hl ⊢
  have hl : lv_has ls 5 [(0, .ref (a o)), (1, .int x1), (2, .int x2), (3, .int x3)] := hl
  exact w_X4_pileOn_0 ho ⟨B.exec, B.bytes, hml, findClass_of_methodNamed B.named, fun w hw => atoms_spec (ws := Cond.code yX4_pileOn cX4_pileOn 5 (some .int) :: xTB) B.pre w (List.mem_cons_of_mem _ hw), hK, hI, hE⟩ B.returns B.notSynchronized hf (fun t0 e => e.symm) ⟨hP, va_S.rf⟩ (lv_sub hl [0, 1, 2, 3] rfl)
set_option maxHeartbeats 4000000 in
set_option maxRecDepth 100000 in
theorem w_X4_around_69 {o : Nat} (ho : xIs_X4 o) {x1 : Int32} {x2 : Int32} {x3 : Int32} {x4 : Int32} (hM : xM p c cX4_around m s args RX4 5 D cy xtb a z) (hr : meth.sig.returnType = (some .int)) (hlk : meth.locks = false) {S' : xSt} {v' : Int32} {S : xSt} {q : (xSt × Int32)} (h : f_X4_around_69 o x1 x2 x3 x4 S = some q) (k0 : ∀ t0 : xSt × Int32, q = t0 → t0 = (S', v')) {H : Heap} {locs : List Loc} (hG : xG D cy xtb a S s H locs) {ls : Array Slot} (hl : lv_has ls 5 [(0, .ref (a o)), (1, .int x1), (2, .int x2), (3, .int x3), (4, .int x4)]) : W p l e ({ frames := 1, cells := 0, slots := 0, locals := 22 } : Room) s m args below meth c H locs 0 0 (MQ below (xQi D cy xtb a S' v' s.heap.size) args s 0 0 (xA xtb a s.heap.size)) (F0 m 69 ls []) := by
  have hx := hM.1
  have hb := hM.2.1
  refine lv_aload_n hx hb dX4_around_69 rfl (lv_at hl 0 rfl) ?_
  refine lv_iload_n hx hb dX4_around_70 rfl (lv_at hl 2 rfl) ?_
  refine lv_iconst (v := (1 : Int32)) hx hb dX4_around_71 (by decide) ?_
  refine x_iadd hM h dX4_around_72 (fun v_1 h => ?_)
  refine lv_iload_n hx hb dX4_around_73 rfl (lv_at hl 3 rfl) ?_
  refine x_cVi (As := [.int v_1, .int x3]) (rest := []) hM hG xml_X4_69 xwi_X4_isBeyond xws_X4_isBeyond ho.1 (by decide) rfl h (fun S' v e => c_X4_isBeyond hM.2.2.2.2.2.2.1 ho e _) ⟨Nat.le_of_ble_eq_true rfl, Nat.le_of_ble_eq_true rfl⟩ rfl hl.1 rfl (Nat.le_of_ble_eq_true rfl) dX4_around_74 (fun S_2 v_3 H locs h hG => ?_)
  refine x_if_eq (tgt := 85) hM h dX4_around_77 (by decide) (fun c_4 h => ?_) (fun c_4 h => ?_)
  · refine lv_iload hx hb dX4_around_85 (lv_at hl 4 rfl) ?_
    refine lv_iconst (v := (1 : Int32)) hx hb dX4_around_87 (by decide) ?_
    refine lv_iload_n hx hb dX4_around_88 rfl (lv_at hl 1 rfl) ?_
    refine lv_iconst (v := (5 : Int32)) hx hb dX4_around_89 (by decide) ?_
    refine x_iadd hM h dX4_around_90 (fun v_5 h => ?_)
    refine x_ishl hM h dX4_around_91 (fun v_6 h => ?_)
    refine x_ior hM h dX4_around_92 (fun v_7 h => ?_)
    exact x_ri hM hG hr hlk rfl (k0 _ (Option.some.inj h).symm) dX4_around_93
  · refine lv_iload hx hb dX4_around_80 (lv_at hl 4 rfl) ?_
    refine lv_goto (tgt := 93) hx hb dX4_around_82 (by decide) ?_
    exact x_ri hM hG hr hlk rfl (k0 _ (Option.some.inj h).symm) dX4_around_93
set_option maxHeartbeats 4000000 in
set_option maxRecDepth 100000 in
theorem w_X4_around_48 {o : Nat} (ho : xIs_X4 o) {x1 : Int32} {x2 : Int32} {x3 : Int32} {x4 : Int32} (hM : xM p c cX4_around m s args RX4 5 D cy xtb a z) (hr : meth.sig.returnType = (some .int)) (hlk : meth.locks = false) {S' : xSt} {v' : Int32} {S : xSt} {q : (xSt × Int32)} (h : f_X4_around_48 o x1 x2 x3 x4 S = some q) (k0 : ∀ t0 : xSt × Int32, q = t0 → t0 = (S', v')) {H : Heap} {locs : List Loc} (hG : xG D cy xtb a S s H locs) {ls : Array Slot} (hl : lv_has ls 5 [(0, .ref (a o)), (1, .int x1), (2, .int x2), (3, .int x3), (4, .int x4)]) : W p l e ({ frames := 1, cells := 0, slots := 0, locals := 22 } : Room) s m args below meth c H locs 0 0 (MQ below (xQi D cy xtb a S' v' s.heap.size) args s 0 0 (xA xtb a s.heap.size)) (F0 m 48 ls []) := by
  have hx := hM.1
  have hb := hM.2.1
  refine lv_aload_n hx hb dX4_around_48 rfl (lv_at hl 0 rfl) ?_
  refine lv_iload_n hx hb dX4_around_49 rfl (lv_at hl 2 rfl) ?_
  refine lv_iconst (v := (1 : Int32)) hx hb dX4_around_50 (by decide) ?_
  refine x_isub hM h dX4_around_51 (fun v_1 h => ?_)
  refine lv_iload_n hx hb dX4_around_52 rfl (lv_at hl 3 rfl) ?_
  refine x_cVi (As := [.int v_1, .int x3]) (rest := []) hM hG xml_X4_69 xwi_X4_isBeyond xws_X4_isBeyond ho.1 (by decide) rfl h (fun S' v e => c_X4_isBeyond hM.2.2.2.2.2.2.1 ho e _) ⟨Nat.le_of_ble_eq_true rfl, Nat.le_of_ble_eq_true rfl⟩ rfl hl.1 rfl (Nat.le_of_ble_eq_true rfl) dX4_around_53 (fun S_2 v_3 H locs h hG => ?_)
  refine x_if_ne (tgt := 69) hM h dX4_around_56 (by decide) (fun c_4 h => ?_) (fun c_4 h => ?_)
  · exact w_X4_around_69 ho hM hr hlk h (fun t0 e => k0 t0 e) hG (lv_sub hl [0, 1, 2, 3, 4] rfl)
  · refine lv_iload hx hb dX4_around_59 (lv_at hl 4 rfl) ?_
    refine lv_iconst (v := (1 : Int32)) hx hb dX4_around_61 (by decide) ?_
    refine lv_iload_n hx hb dX4_around_62 rfl (lv_at hl 1 rfl) ?_
    refine lv_iconst (v := (5 : Int32)) hx hb dX4_around_63 (by decide) ?_
    refine x_isub hM h dX4_around_64 (fun v_5 h => ?_)
    refine x_ishl hM h dX4_around_65 (fun v_6 h => ?_)
    refine x_ior hM h dX4_around_66 (fun v_7 h => ?_)
    refine lv_istore (lv' := [(4, .int v_7), (0, .ref (a o)), (1, .int x1), (2, .int x2), (3, .int x3)]) hx hb dX4_around_67 hl (by decide) rfl (fun ls hl => ?_)
    exact w_X4_around_69 ho hM hr hlk h (fun t0 e => k0 t0 e) hG (lv_sub hl [1, 2, 3, 4, 0] rfl)
set_option maxHeartbeats 4000000 in
set_option maxRecDepth 100000 in
theorem w_X4_around_27 {o : Nat} (ho : xIs_X4 o) {x1 : Int32} {x2 : Int32} {x3 : Int32} {x4 : Int32} (hM : xM p c cX4_around m s args RX4 5 D cy xtb a z) (hr : meth.sig.returnType = (some .int)) (hlk : meth.locks = false) {S' : xSt} {v' : Int32} {S : xSt} {q : (xSt × Int32)} (h : f_X4_around_27 o x1 x2 x3 x4 S = some q) (k0 : ∀ t0 : xSt × Int32, q = t0 → t0 = (S', v')) {H : Heap} {locs : List Loc} (hG : xG D cy xtb a S s H locs) {ls : Array Slot} (hl : lv_has ls 5 [(0, .ref (a o)), (1, .int x1), (2, .int x2), (3, .int x3), (4, .int x4)]) : W p l e ({ frames := 1, cells := 0, slots := 0, locals := 22 } : Room) s m args below meth c H locs 0 0 (MQ below (xQi D cy xtb a S' v' s.heap.size) args s 0 0 (xA xtb a s.heap.size)) (F0 m 27 ls []) := by
  have hx := hM.1
  have hb := hM.2.1
  refine lv_aload_n hx hb dX4_around_27 rfl (lv_at hl 0 rfl) ?_
  refine lv_iload_n hx hb dX4_around_28 rfl (lv_at hl 2 rfl) ?_
  refine lv_iload_n hx hb dX4_around_29 rfl (lv_at hl 3 rfl) ?_
  refine lv_iconst (v := (1 : Int32)) hx hb dX4_around_30 (by decide) ?_
  refine x_iadd hM h dX4_around_31 (fun v_1 h => ?_)
  refine x_cVi (As := [.int x2, .int v_1]) (rest := []) hM hG xml_X4_69 xwi_X4_isBeyond xws_X4_isBeyond ho.1 (by decide) rfl h (fun S' v e => c_X4_isBeyond hM.2.2.2.2.2.2.1 ho e _) ⟨Nat.le_of_ble_eq_true rfl, Nat.le_of_ble_eq_true rfl⟩ rfl hl.1 rfl (Nat.le_of_ble_eq_true rfl) dX4_around_32 (fun S_2 v_3 H locs h hG => ?_)
  refine x_if_ne (tgt := 48) hM h dX4_around_35 (by decide) (fun c_4 h => ?_) (fun c_4 h => ?_)
  · exact w_X4_around_48 ho hM hr hlk h (fun t0 e => k0 t0 e) hG (lv_sub hl [0, 1, 2, 3, 4] rfl)
  · refine lv_iload hx hb dX4_around_38 (lv_at hl 4 rfl) ?_
    refine lv_iconst (v := (1 : Int32)) hx hb dX4_around_40 (by decide) ?_
    refine lv_iload_n hx hb dX4_around_41 rfl (lv_at hl 1 rfl) ?_
    refine lv_iconst (v := (1 : Int32)) hx hb dX4_around_42 (by decide) ?_
    refine x_iadd hM h dX4_around_43 (fun v_5 h => ?_)
    refine x_ishl hM h dX4_around_44 (fun v_6 h => ?_)
    refine x_ior hM h dX4_around_45 (fun v_7 h => ?_)
    refine lv_istore (lv' := [(4, .int v_7), (0, .ref (a o)), (1, .int x1), (2, .int x2), (3, .int x3)]) hx hb dX4_around_46 hl (by decide) rfl (fun ls hl => ?_)
    exact w_X4_around_48 ho hM hr hlk h (fun t0 e => k0 t0 e) hG (lv_sub hl [1, 2, 3, 4, 0] rfl)
set_option maxHeartbeats 4000000 in
set_option maxRecDepth 100000 in
theorem w_X4_around_0 {o : Nat} (ho : xIs_X4 o) {x1 : Int32} (hM : xM p c cX4_around m s args RX4 5 D cy xtb a z) (hr : meth.sig.returnType = (some .int)) (hlk : meth.locks = false) {S' : xSt} {v' : Int32} {S : xSt} {q : (xSt × Int32)} (h : f_X4_around_0 o x1 S = some q) (k0 : ∀ t0 : xSt × Int32, q = t0 → t0 = (S', v')) {H : Heap} {locs : List Loc} (hG : xG D cy xtb a S s H locs) {ls : Array Slot} (hl : lv_has ls 5 [(0, .ref (a o)), (1, .int x1)]) : W p l e ({ frames := 1, cells := 0, slots := 0, locals := 22 } : Room) s m args below meth c H locs 0 0 (MQ below (xQi D cy xtb a S' v' s.heap.size) args s 0 0 (xA xtb a s.heap.size)) (F0 m 0 ls []) := by
  have hx := hM.1
  have hb := hM.2.1
  refine lv_iload_n hx hb dX4_around_0 rfl (lv_at hl 1 rfl) ?_
  refine lv_iconst (v := (5 : Int32)) hx hb dX4_around_1 (by decide) ?_
  refine x_idiv hM h dX4_around_2 (fun v_1 h => ?_)
  refine lv_istore_n (lv' := [(2, .int v_1), (0, .ref (a o)), (1, .int x1)]) hx hb dX4_around_3 rfl hl (by decide) rfl (fun ls hl => ?_)
  refine lv_iload_n hx hb dX4_around_4 rfl (lv_at hl 2 rfl) ?_
  refine lv_iconst (v := (5 : Int32)) hx hb dX4_around_5 (by decide) ?_
  refine x_irem hM h dX4_around_6 (fun v_2 h => ?_)
  refine lv_istore_n (lv' := [(3, .int v_2), (2, .int v_1), (0, .ref (a o)), (1, .int x1)]) hx hb dX4_around_7 rfl hl (by decide) rfl (fun ls hl => ?_)
  refine lv_iconst (v := (1 : Int32)) hx hb dX4_around_8 (by decide) ?_
  refine lv_iload_n hx hb dX4_around_9 rfl (lv_at hl 3 rfl) ?_
  refine x_ishl hM h dX4_around_10 (fun v_3 h => ?_)
  refine lv_istore (lv' := [(4, .int v_3), (3, .int v_2), (2, .int v_1), (0, .ref (a o)), (1, .int x1)]) hx hb dX4_around_11 hl (by decide) rfl (fun ls hl => ?_)
  refine lv_iload_n hx hb dX4_around_13 rfl (lv_at hl 1 rfl) ?_
  refine x_if_le (tgt := 27) hM h dX4_around_14 (by decide) (fun c_4 h => ?_) (fun c_4 h => ?_)
  · exact w_X4_around_27 ho hM hr hlk h (fun t0 e => k0 t0 e) hG (lv_sub hl [3, 4, 2, 1, 0] rfl)
  · refine lv_iload hx hb dX4_around_17 (lv_at hl 0 rfl) ?_
    refine lv_iconst (v := (1 : Int32)) hx hb dX4_around_19 (by decide) ?_
    refine lv_iload_n hx hb dX4_around_20 rfl (lv_at hl 4 rfl) ?_
    refine lv_iconst (v := (1 : Int32)) hx hb dX4_around_21 (by decide) ?_
    refine x_isub hM h dX4_around_22 (fun v_5 h => ?_)
    refine x_ishl hM h dX4_around_23 (fun v_6 h => ?_)
    refine x_ior hM h dX4_around_24 (fun v_7 h => ?_)
    refine lv_istore (lv' := [(4, .int v_7), (3, .int v_2), (2, .int v_1), (0, .ref (a o)), (1, .int x1)]) hx hb dX4_around_25 hl (by decide) rfl (fun ls hl => ?_)
    exact w_X4_around_27 ho hM hr hlk h (fun t0 e => k0 t0 e) hG (lv_sub hl [3, 4, 2, 1, 0] rfl)
set_option maxHeartbeats 4000000 in
set_option maxRecDepth 100000 in
theorem c_X4_around {l : Launch} {D : va_G} {cy : Nat → ClassId} {a z : Nat → Nat} (hI : xI xtb a) {o : Nat} (ho : xIs_X4 o) {S : xSt} {x1 : Int32} {S' : xSt} {v' : Int32} (hf : f_X4_around o S x1 = some (S', v')) (sz : Nat) : Met l yX4_around (Cond.code yX4_around cX4_around 5 (some .int) :: xTB) ({ frames := 1, cells := 0, slots := 0, locals := 22 } : Room) (va_Pc [.ref (a o), .int x1] (xPre D cy xtb a z S sz)) (xQi D cy xtb a S' v' sz) 0 0 (xA xtb a sz) := by
  refine Met.ofW (cc := cX4_around) (maxL := 5) (ret := (some .int)) (by decide) rfl ?_
  intro p e s m args below meth c s₁ B hml hv
  obtain ⟨rfl, hsz, hP, hK, hE⟩ := hv
  subst hsz
  have hl := lv_entry ([.ref (a o), .int x1]) (n := 5) (Nat.le_of_ble_eq_true rfl)
  rw [lg_entry_eq]
  generalize (lg_sl ([.ref (a o), .int x1]) ++ List.replicate (5 - (lg_sl ([.ref (a o), .int x1])).length) Slot.unset).toArray = ls at hl ⊢
  have hl : lv_has ls 5 [(0, .ref (a o)), (1, .int x1)] := hl
  exact w_X4_around_0 ho ⟨B.exec, B.bytes, hml, findClass_of_methodNamed B.named, fun w hw => atoms_spec (ws := Cond.code yX4_around cX4_around 5 (some .int) :: xTB) B.pre w (List.mem_cons_of_mem _ hw), hK, hI, hE⟩ B.returns B.notSynchronized hf (fun t0 e => e.symm) ⟨hP, va_S.rf⟩ (lv_sub hl [0, 1] rfl)
set_option maxHeartbeats 4000000 in
set_option maxRecDepth 100000 in
theorem w_X4_glowing_34 {o : Nat} (ho : xIs_X4 o) {x1 : Int32} {x2 : Int32} (hM : xM p c cX4_glowing m s args RX4 3 D cy xtb a z) (hr : meth.sig.returnType = (some .int)) (hlk : meth.locks = false) {S' : xSt} {v' : Int32} {S : xSt} {q : ((xSt × Int32 × Int32) ⊕ (xSt × Int32))} (h : f_X4_glowing_34 o x1 x2 S = some q) (k0 : ∀ t0 : xSt × Int32, q = (.inr t0) → t0 = (S', v')) (k1 : ∀ (S : xSt) (x1 : Int32) (x2 : Int32), q = (.inl (S, x1, x2)) → ∀ (H : Heap) (locs : List Loc) (ls : Array Slot), xG D cy xtb a S s H locs → lv_has ls 3 [(0, .ref (a o)), (1, .int x1), (2, .int x2)] → W p l e ({ frames := 1, cells := 0, slots := 0, locals := 21 } : Room) s m args below meth c H locs 0 0 (MQ below (xQi D cy xtb a S' v' s.heap.size) args s 0 0 (xA xtb a s.heap.size)) (F0 m 4 ls [])) {H : Heap} {locs : List Loc} (hG : xG D cy xtb a S s H locs) {ls : Array Slot} (hl : lv_has ls 3 [(0, .ref (a o)), (1, .int x1), (2, .int x2)]) : W p l e ({ frames := 1, cells := 0, slots := 0, locals := 21 } : Room) s m args below meth c H locs 0 0 (MQ below (xQi D cy xtb a S' v' s.heap.size) args s 0 0 (xA xtb a s.heap.size)) (F0 m 34 ls []) := by
  have hx := hM.1
  have hb := hM.2.1
  refine x_iinc hM (fun v => [(2, .int v), (0, .ref (a o)), (1, .int x1)]) h dX4_glowing_34 hl (k := 2) rfl (by decide) (by decide) (fun _ => rfl) (fun v_1 ls h hl => ?_)
  refine lv_goto (tgt := 4) hx hb dX4_glowing_37 (by decide) ?_
  exact k1 _ _ _ (Option.some.inj h).symm _ _ _ hG (lv_sub hl [1, 2, 0] rfl)
set_option maxHeartbeats 4000000 in
set_option maxRecDepth 100000 in
theorem w_X4_glowing_4 {o : Nat} (ho : xIs_X4 o) {x1 : Int32} {x2 : Int32} (hM : xM p c cX4_glowing m s args RX4 3 D cy xtb a z) (hr : meth.sig.returnType = (some .int)) (hlk : meth.locks = false) {S' : xSt} {v' : Int32} {S : xSt} {q : ((xSt × Int32 × Int32) ⊕ (xSt × Int32))} (h : f_X4_glowing_4 o S x1 x2 = some q) (k0 : ∀ t0 : xSt × Int32, q = (.inr t0) → t0 = (S', v')) (k1 : ∀ (S : xSt) (x1 : Int32) (x2 : Int32), q = (.inl (S, x1, x2)) → ∀ (H : Heap) (locs : List Loc) (ls : Array Slot), xG D cy xtb a S s H locs → lv_has ls 3 [(0, .ref (a o)), (1, .int x1), (2, .int x2)] → W p l e ({ frames := 1, cells := 0, slots := 0, locals := 21 } : Room) s m args below meth c H locs 0 0 (MQ below (xQi D cy xtb a S' v' s.heap.size) args s 0 0 (xA xtb a s.heap.size)) (F0 m 4 ls [])) {H : Heap} {locs : List Loc} (hG : xG D cy xtb a S s H locs) {ls : Array Slot} (hl : lv_has ls 3 [(0, .ref (a o)), (1, .int x1), (2, .int x2)]) : W p l e ({ frames := 1, cells := 0, slots := 0, locals := 21 } : Room) s m args below meth c H locs 0 0 (MQ below (xQi D cy xtb a S' v' s.heap.size) args s 0 0 (xA xtb a s.heap.size)) (F0 m 4 ls []) := by
  have hx := hM.1
  have hb := hM.2.1
  refine lv_iload_n hx hb dX4_glowing_4 rfl (lv_at hl 2 rfl) ?_
  refine lv_bipush (v := (30 : Int32)) hx hb dX4_glowing_5 (by decide) ?_
  refine x_icmp_ge (tgt := 40) hM h dX4_glowing_7 (by decide) (fun c_1 h => ?_) (fun c_1 h => ?_)
  · refine lv_iload_n hx hb dX4_glowing_40 rfl (lv_at hl 1 rfl) ?_
    exact x_ri hM hG hr hlk rfl (k0 _ (Option.some.inj h).symm) dX4_glowing_41
  · refine lv_aload_n hx hb dX4_glowing_10 rfl (lv_at hl 0 rfl) ?_
    refine lv_iload_n hx hb dX4_glowing_11 rfl (lv_at hl 2 rfl) ?_
    refine x_cVi (As := [.int x2]) (rest := []) hM hG xml_X4_73 xwi_X4_has xws_X4_has ho.1 (by decide) rfl h (fun S' v e => c_X4_has hM.2.2.2.2.2.2.1 ho e _) ⟨Nat.le_of_ble_eq_true rfl, Nat.le_of_ble_eq_true rfl⟩ rfl hl.1 rfl (Nat.le_of_ble_eq_true rfl) dX4_glowing_12 (fun S_2 v_3 H locs h hG => ?_)
    refine x_if_eq (tgt := 34) hM h dX4_glowing_15 (by decide) (fun c_4 h => ?_) (fun c_4 h => ?_)
    · exact w_X4_glowing_34 ho hM hr hlk h (fun t0 e => k0 t0 e) (fun S x1 x2 e => k1 S x1 x2 e) hG (lv_sub hl [0, 1, 2] rfl)
    · refine lv_aload_n hx hb dX4_glowing_18 rfl (lv_at hl 0 rfl) ?_
      refine x_gr (r := o + 4) hM hG xfl_X4_21 ho.1 (by decide) rfl dX4_glowing_19 ?_
      refine lv_iload_n hx hb dX4_glowing_22 rfl (lv_at hl 2 rfl) ?_
      refine x_iald hM hG ho.2.2.2.2.1 h dX4_glowing_23 (fun v_5 h => ?_)
      refine lv_aload_n hx hb dX4_glowing_24 rfl (lv_at hl 0 rfl) ?_
      refine x_gi hM hG xfl_X4_39 ho.1 (by decide) rfl h dX4_glowing_25 (fun v_6 h => ?_)
      refine x_icmp_lt (tgt := 34) hM h dX4_glowing_28 (by decide) (fun c_7 h => ?_) (fun c_7 h => ?_)
      · exact w_X4_glowing_34 ho hM hr hlk h (fun t0 e => k0 t0 e) (fun S x1 x2 e => k1 S x1 x2 e) hG (lv_sub hl [0, 1, 2] rfl)
      · refine x_iinc hM (fun v => [(1, .int v), (0, .ref (a o)), (2, .int x2)]) h dX4_glowing_31 hl (k := 1) rfl (by decide) (by decide) (fun _ => rfl) (fun v_8 ls h hl => ?_)
        exact w_X4_glowing_34 ho hM hr hlk h (fun t0 e => k0 t0 e) (fun S x1 x2 e => k1 S x1 x2 e) hG (lv_sub hl [1, 0, 2] rfl)
theorem wl_X4_glowing_4 {o : Nat} (ho : xIs_X4 o) (hM : xM p c cX4_glowing m s args RX4 3 D cy xtb a z) (hr : meth.sig.returnType = (some .int)) (hlk : meth.locks = false) {S' : xSt} {v' : Int32} {q : (xSt × Int32)} (k0 : ∀ t0 : xSt × Int32, q = t0 → t0 = (S', v')) (n : Nat) : ∀ (S : xSt) (x1 : Int32) (x2 : Int32) (H : Heap) (locs : List Loc) (ls : Array Slot), xlp (fun q : (xSt × Int32 × Int32) => f_X4_glowing_4 o q.1 q.2.1 q.2.2) n (S, x1, x2) = some q → xG D cy xtb a S s H locs → lv_has ls 3 [(0, .ref (a o)), (1, .int x1), (2, .int x2)] → W p l e ({ frames := 1, cells := 0, slots := 0, locals := 21 } : Room) s m args below meth c H locs 0 0 (MQ below (xQi D cy xtb a S' v' s.heap.size) args s 0 0 (xA xtb a s.heap.size)) (F0 m 4 ls []) := by
  induction n with
  | zero => intro S x1 x2 H locs ls h; exact (xlp_0 h).elim
  | succ n ih =>
    intro S x1 x2 H locs ls h hG hl
    obtain ⟨q1, hq, hc, he⟩ := xlp_at h
    exact w_X4_glowing_4 ho hM hr hlk (q := q1) hq (fun t0 e => k0 t0 (he _ e).symm) (fun S x1 x2 e H locs ls hG hl => ih S x1 x2 H locs ls (hc _ e) hG hl) hG hl
set_option maxHeartbeats 4000000 in
set_option maxRecDepth 100000 in
theorem w_X4_glowing_0 {o : Nat} (ho : xIs_X4 o) (hM : xM p c cX4_glowing m s args RX4 3 D cy xtb a z) (hr : meth.sig.returnType = (some .int)) (hlk : meth.locks = false) {S' : xSt} {v' : Int32} {S : xSt} {q : (xSt × Int32)} (h : f_X4_glowing_0 o S = some q) (k0 : ∀ t0 : xSt × Int32, q = t0 → t0 = (S', v')) {H : Heap} {locs : List Loc} (hG : xG D cy xtb a S s H locs) {ls : Array Slot} (hl : lv_has ls 3 [(0, .ref (a o))]) : W p l e ({ frames := 1, cells := 0, slots := 0, locals := 21 } : Room) s m args below meth c H locs 0 0 (MQ below (xQi D cy xtb a S' v' s.heap.size) args s 0 0 (xA xtb a s.heap.size)) (F0 m 0 ls []) := by
  have hx := hM.1
  have hb := hM.2.1
  refine lv_iconst (v := (0 : Int32)) hx hb dX4_glowing_0 (by decide) ?_
  refine lv_istore_n (lv' := [(1, .int (0 : Int32)), (0, .ref (a o))]) hx hb dX4_glowing_1 rfl hl (by decide) rfl (fun ls hl => ?_)
  refine lv_iconst (v := (0 : Int32)) hx hb dX4_glowing_2 (by decide) ?_
  refine lv_istore_n (lv' := [(2, .int (0 : Int32)), (1, .int (0 : Int32)), (0, .ref (a o))]) hx hb dX4_glowing_3 rfl hl (by decide) rfl (fun ls hl => ?_)
  exact wl_X4_glowing_4 ho hM hr hlk (fun t0 e => k0 t0 e) 5000 _ _ _ _ _ _ h hG (lv_sub hl [2, 1, 0] rfl)
set_option maxHeartbeats 4000000 in
set_option maxRecDepth 100000 in
theorem c_X4_glowing {l : Launch} {D : va_G} {cy : Nat → ClassId} {a z : Nat → Nat} (hI : xI xtb a) {o : Nat} (ho : xIs_X4 o) {S : xSt} {S' : xSt} {v' : Int32} (hf : f_X4_glowing o S = some (S', v')) (sz : Nat) : Met l yX4_glowing (Cond.code yX4_glowing cX4_glowing 3 (some .int) :: xTB) ({ frames := 1, cells := 0, slots := 0, locals := 21 } : Room) (va_Pc [.ref (a o)] (xPre D cy xtb a z S sz)) (xQi D cy xtb a S' v' sz) 0 0 (xA xtb a sz) := by
  refine Met.ofW (cc := cX4_glowing) (maxL := 3) (ret := (some .int)) (by decide) rfl ?_
  intro p e s m args below meth c s₁ B hml hv
  obtain ⟨rfl, hsz, hP, hK, hE⟩ := hv
  subst hsz
  have hl := lv_entry ([.ref (a o)]) (n := 3) (Nat.le_of_ble_eq_true rfl)
  rw [lg_entry_eq]
  generalize (lg_sl ([.ref (a o)]) ++ List.replicate (3 - (lg_sl ([.ref (a o)])).length) Slot.unset).toArray = ls at hl ⊢
  have hl : lv_has ls 3 [(0, .ref (a o))] := hl
  exact w_X4_glowing_0 ho ⟨B.exec, B.bytes, hml, findClass_of_methodNamed B.named, fun w hw => atoms_spec (ws := Cond.code yX4_glowing cX4_glowing 3 (some .int) :: xTB) B.pre w (List.mem_cons_of_mem _ hw), hK, hI, hE⟩ B.returns B.notSynchronized hf (fun t0 e => e.symm) ⟨hP, va_S.rf⟩ (lv_sub hl [0] rfl)
set_option maxHeartbeats 4000000 in
set_option maxRecDepth 100000 in
theorem w_X4_goodOfAll_27 {o : Nat} (ho : xIs_X4 o) {x1 : Int32} {x2 : Int32} (hM : xM p c cX4_goodOfAll m s args RX4 3 D cy xtb a z) (hr : meth.sig.returnType = (some .int)) (hlk : meth.locks = false) {S' : xSt} {v' : Int32} {S : xSt} {q : ((xSt × Int32 × Int32) ⊕ (xSt × Int32))} (h : f_X4_goodOfAll_27 o x1 x2 S = some q) (k0 : ∀ t0 : xSt × Int32, q = (.inr t0) → t0 = (S', v')) (k1 : ∀ (S : xSt) (x1 : Int32) (x2 : Int32), q = (.inl (S, x1, x2)) → ∀ (H : Heap) (locs : List Loc) (ls : Array Slot), xG D cy xtb a S s H locs → lv_has ls 3 [(0, .ref (a o)), (1, .int x1), (2, .int x2)] → W p l e ({ frames := 1, cells := 0, slots := 0, locals := 21 } : Room) s m args below meth c H locs 0 0 (MQ below (xQi D cy xtb a S' v' s.heap.size) args s 0 0 (xA xtb a s.heap.size)) (F0 m 4 ls [])) {H : Heap} {locs : List Loc} (hG : xG D cy xtb a S s H locs) {ls : Array Slot} (hl : lv_has ls 3 [(0, .ref (a o)), (1, .int x1), (2, .int x2)]) : W p l e ({ frames := 1, cells := 0, slots := 0, locals := 21 } : Room) s m args below meth c H locs 0 0 (MQ below (xQi D cy xtb a S' v' s.heap.size) args s 0 0 (xA xtb a s.heap.size)) (F0 m 27 ls []) := by
  have hx := hM.1
  have hb := hM.2.1
  refine x_iinc hM (fun v => [(2, .int v), (0, .ref (a o)), (1, .int x1)]) h dX4_goodOfAll_27 hl (k := 2) rfl (by decide) (by decide) (fun _ => rfl) (fun v_1 ls h hl => ?_)
  refine lv_goto (tgt := 4) hx hb dX4_goodOfAll_30 (by decide) ?_
  exact k1 _ _ _ (Option.some.inj h).symm _ _ _ hG (lv_sub hl [1, 2, 0] rfl)
set_option maxHeartbeats 4000000 in
set_option maxRecDepth 100000 in
theorem w_X4_goodOfAll_4 {o : Nat} (ho : xIs_X4 o) {x1 : Int32} {x2 : Int32} (hM : xM p c cX4_goodOfAll m s args RX4 3 D cy xtb a z) (hr : meth.sig.returnType = (some .int)) (hlk : meth.locks = false) {S' : xSt} {v' : Int32} {S : xSt} {q : ((xSt × Int32 × Int32) ⊕ (xSt × Int32))} (h : f_X4_goodOfAll_4 o S x1 x2 = some q) (k0 : ∀ t0 : xSt × Int32, q = (.inr t0) → t0 = (S', v')) (k1 : ∀ (S : xSt) (x1 : Int32) (x2 : Int32), q = (.inl (S, x1, x2)) → ∀ (H : Heap) (locs : List Loc) (ls : Array Slot), xG D cy xtb a S s H locs → lv_has ls 3 [(0, .ref (a o)), (1, .int x1), (2, .int x2)] → W p l e ({ frames := 1, cells := 0, slots := 0, locals := 21 } : Room) s m args below meth c H locs 0 0 (MQ below (xQi D cy xtb a S' v' s.heap.size) args s 0 0 (xA xtb a s.heap.size)) (F0 m 4 ls [])) {H : Heap} {locs : List Loc} (hG : xG D cy xtb a S s H locs) {ls : Array Slot} (hl : lv_has ls 3 [(0, .ref (a o)), (1, .int x1), (2, .int x2)]) : W p l e ({ frames := 1, cells := 0, slots := 0, locals := 21 } : Room) s m args below meth c H locs 0 0 (MQ below (xQi D cy xtb a S' v' s.heap.size) args s 0 0 (xA xtb a s.heap.size)) (F0 m 4 ls []) := by
  have hx := hM.1
  have hb := hM.2.1
  refine lv_iload_n hx hb dX4_goodOfAll_4 rfl (lv_at hl 2 rfl) ?_
  refine lv_bipush (v := (30 : Int32)) hx hb dX4_goodOfAll_5 (by decide) ?_
  refine x_icmp_ge (tgt := 33) hM h dX4_goodOfAll_7 (by decide) (fun c_1 h => ?_) (fun c_1 h => ?_)
  · refine lv_iload_n hx hb dX4_goodOfAll_33 rfl (lv_at hl 1 rfl) ?_
    exact x_ri hM hG hr hlk rfl (k0 _ (Option.some.inj h).symm) dX4_goodOfAll_34
  · refine lv_aload_n hx hb dX4_goodOfAll_10 rfl (lv_at hl 0 rfl) ?_
    refine lv_iload_n hx hb dX4_goodOfAll_11 rfl (lv_at hl 2 rfl) ?_
    refine x_cVi (As := [.int x2]) (rest := []) hM hG xml_X4_73 xwi_X4_has xws_X4_has ho.1 (by decide) rfl h (fun S' v e => c_X4_has hM.2.2.2.2.2.2.1 ho e _) ⟨Nat.le_of_ble_eq_true rfl, Nat.le_of_ble_eq_true rfl⟩ rfl hl.1 rfl (Nat.le_of_ble_eq_true rfl) dX4_goodOfAll_12 (fun S_2 v_3 H locs h hG => ?_)
    refine x_if_eq (tgt := 27) hM h dX4_goodOfAll_15 (by decide) (fun c_4 h => ?_) (fun c_4 h => ?_)
    · exact w_X4_goodOfAll_27 ho hM hr hlk h (fun t0 e => k0 t0 e) (fun S x1 x2 e => k1 S x1 x2 e) hG (lv_sub hl [0, 1, 2] rfl)
    · refine lv_iload_n hx hb dX4_goodOfAll_18 rfl (lv_at hl 1 rfl) ?_
      refine lv_aload_n hx hb dX4_goodOfAll_19 rfl (lv_at hl 0 rfl) ?_
      refine x_gr (r := o + 5) hM hG xfl_X4_24 ho.1 (by decide) rfl dX4_goodOfAll_20 ?_
      refine lv_iload_n hx hb dX4_goodOfAll_23 rfl (lv_at hl 2 rfl) ?_
      refine x_iald hM hG ho.2.2.2.2.2.1 h dX4_goodOfAll_24 (fun v_5 h => ?_)
      refine x_iadd hM h dX4_goodOfAll_25 (fun v_6 h => ?_)
      refine lv_istore_n (lv' := [(1, .int v_6), (0, .ref (a o)), (2, .int x2)]) hx hb dX4_goodOfAll_26 rfl hl (by decide) rfl (fun ls hl => ?_)
      exact w_X4_goodOfAll_27 ho hM hr hlk h (fun t0 e => k0 t0 e) (fun S x1 x2 e => k1 S x1 x2 e) hG (lv_sub hl [1, 0, 2] rfl)
theorem wl_X4_goodOfAll_4 {o : Nat} (ho : xIs_X4 o) (hM : xM p c cX4_goodOfAll m s args RX4 3 D cy xtb a z) (hr : meth.sig.returnType = (some .int)) (hlk : meth.locks = false) {S' : xSt} {v' : Int32} {q : (xSt × Int32)} (k0 : ∀ t0 : xSt × Int32, q = t0 → t0 = (S', v')) (n : Nat) : ∀ (S : xSt) (x1 : Int32) (x2 : Int32) (H : Heap) (locs : List Loc) (ls : Array Slot), xlp (fun q : (xSt × Int32 × Int32) => f_X4_goodOfAll_4 o q.1 q.2.1 q.2.2) n (S, x1, x2) = some q → xG D cy xtb a S s H locs → lv_has ls 3 [(0, .ref (a o)), (1, .int x1), (2, .int x2)] → W p l e ({ frames := 1, cells := 0, slots := 0, locals := 21 } : Room) s m args below meth c H locs 0 0 (MQ below (xQi D cy xtb a S' v' s.heap.size) args s 0 0 (xA xtb a s.heap.size)) (F0 m 4 ls []) := by
  induction n with
  | zero => intro S x1 x2 H locs ls h; exact (xlp_0 h).elim
  | succ n ih =>
    intro S x1 x2 H locs ls h hG hl
    obtain ⟨q1, hq, hc, he⟩ := xlp_at h
    exact w_X4_goodOfAll_4 ho hM hr hlk (q := q1) hq (fun t0 e => k0 t0 (he _ e).symm) (fun S x1 x2 e H locs ls hG hl => ih S x1 x2 H locs ls (hc _ e) hG hl) hG hl
set_option maxHeartbeats 4000000 in
set_option maxRecDepth 100000 in
theorem w_X4_goodOfAll_0 {o : Nat} (ho : xIs_X4 o) (hM : xM p c cX4_goodOfAll m s args RX4 3 D cy xtb a z) (hr : meth.sig.returnType = (some .int)) (hlk : meth.locks = false) {S' : xSt} {v' : Int32} {S : xSt} {q : (xSt × Int32)} (h : f_X4_goodOfAll_0 o S = some q) (k0 : ∀ t0 : xSt × Int32, q = t0 → t0 = (S', v')) {H : Heap} {locs : List Loc} (hG : xG D cy xtb a S s H locs) {ls : Array Slot} (hl : lv_has ls 3 [(0, .ref (a o))]) : W p l e ({ frames := 1, cells := 0, slots := 0, locals := 21 } : Room) s m args below meth c H locs 0 0 (MQ below (xQi D cy xtb a S' v' s.heap.size) args s 0 0 (xA xtb a s.heap.size)) (F0 m 0 ls []) := by
  have hx := hM.1
  have hb := hM.2.1
  refine lv_iconst (v := (0 : Int32)) hx hb dX4_goodOfAll_0 (by decide) ?_
  refine lv_istore_n (lv' := [(1, .int (0 : Int32)), (0, .ref (a o))]) hx hb dX4_goodOfAll_1 rfl hl (by decide) rfl (fun ls hl => ?_)
  refine lv_iconst (v := (0 : Int32)) hx hb dX4_goodOfAll_2 (by decide) ?_
  refine lv_istore_n (lv' := [(2, .int (0 : Int32)), (1, .int (0 : Int32)), (0, .ref (a o))]) hx hb dX4_goodOfAll_3 rfl hl (by decide) rfl (fun ls hl => ?_)
  exact wl_X4_goodOfAll_4 ho hM hr hlk (fun t0 e => k0 t0 e) 5000 _ _ _ _ _ _ h hG (lv_sub hl [2, 1, 0] rfl)
set_option maxHeartbeats 4000000 in
set_option maxRecDepth 100000 in
theorem c_X4_goodOfAll {l : Launch} {D : va_G} {cy : Nat → ClassId} {a z : Nat → Nat} (hI : xI xtb a) {o : Nat} (ho : xIs_X4 o) {S : xSt} {S' : xSt} {v' : Int32} (hf : f_X4_goodOfAll o S = some (S', v')) (sz : Nat) : Met l yX4_goodOfAll (Cond.code yX4_goodOfAll cX4_goodOfAll 3 (some .int) :: xTB) ({ frames := 1, cells := 0, slots := 0, locals := 21 } : Room) (va_Pc [.ref (a o)] (xPre D cy xtb a z S sz)) (xQi D cy xtb a S' v' sz) 0 0 (xA xtb a sz) := by
  refine Met.ofW (cc := cX4_goodOfAll) (maxL := 3) (ret := (some .int)) (by decide) rfl ?_
  intro p e s m args below meth c s₁ B hml hv
  obtain ⟨rfl, hsz, hP, hK, hE⟩ := hv
  subst hsz
  have hl := lv_entry ([.ref (a o)]) (n := 3) (Nat.le_of_ble_eq_true rfl)
  rw [lg_entry_eq]
  generalize (lg_sl ([.ref (a o)]) ++ List.replicate (3 - (lg_sl ([.ref (a o)])).length) Slot.unset).toArray = ls at hl ⊢
  have hl : lv_has ls 3 [(0, .ref (a o))] := hl
  exact w_X4_goodOfAll_0 ho ⟨B.exec, B.bytes, hml, findClass_of_methodNamed B.named, fun w hw => atoms_spec (ws := Cond.code yX4_goodOfAll cX4_goodOfAll 3 (some .int) :: xTB) B.pre w (List.mem_cons_of_mem _ hw), hK, hI, hE⟩ B.returns B.notSynchronized hf (fun t0 e => e.symm) ⟨hP, va_S.rf⟩ (lv_sub hl [0] rfl)
set_option maxHeartbeats 4000000 in
set_option maxRecDepth 100000 in
theorem w_X4_value_43 {o : Nat} (ho : xIs_X4 o) {x1 : Int32} {x2 : Int32} (hM : xM p c cX4_value m s args RX4 3 D cy xtb a z) (hr : meth.sig.returnType = (some .int)) (hlk : meth.locks = false) {S' : xSt} {v' : Int32} {S : xSt} {q : ((xSt × Int32 × Int32) ⊕ (xSt × Int32))} (h : f_X4_value_43 o x1 x2 S = some q) (k0 : ∀ t0 : xSt × Int32, q = (.inr t0) → t0 = (S', v')) (k1 : ∀ (S : xSt) (x1 : Int32) (x2 : Int32), q = (.inl (S, x1, x2)) → ∀ (H : Heap) (locs : List Loc) (ls : Array Slot), xG D cy xtb a S s H locs → lv_has ls 3 [(0, .ref (a o)), (1, .int x1), (2, .int x2)] → W p l e ({ frames := 1, cells := 0, slots := 0, locals := 21 } : Room) s m args below meth c H locs 0 0 (MQ below (xQi D cy xtb a S' v' s.heap.size) args s 0 0 (xA xtb a s.heap.size)) (F0 m 4 ls [])) {H : Heap} {locs : List Loc} (hG : xG D cy xtb a S s H locs) {ls : Array Slot} (hl : lv_has ls 3 [(0, .ref (a o)), (1, .int x1), (2, .int x2)]) : W p l e ({ frames := 1, cells := 0, slots := 0, locals := 21 } : Room) s m args below meth c H locs 0 0 (MQ below (xQi D cy xtb a S' v' s.heap.size) args s 0 0 (xA xtb a s.heap.size)) (F0 m 43 ls []) := by
  have hx := hM.1
  have hb := hM.2.1
  refine x_iinc hM (fun v => [(2, .int v), (0, .ref (a o)), (1, .int x1)]) h dX4_value_43 hl (k := 2) rfl (by decide) (by decide) (fun _ => rfl) (fun v_1 ls h hl => ?_)
  refine lv_goto (tgt := 4) hx hb dX4_value_46 (by decide) ?_
  exact k1 _ _ _ (Option.some.inj h).symm _ _ _ hG (lv_sub hl [1, 2, 0] rfl)
set_option maxHeartbeats 4000000 in
set_option maxRecDepth 100000 in
theorem w_X4_value_4 {o : Nat} (ho : xIs_X4 o) {x1 : Int32} {x2 : Int32} (hM : xM p c cX4_value m s args RX4 3 D cy xtb a z) (hr : meth.sig.returnType = (some .int)) (hlk : meth.locks = false) {S' : xSt} {v' : Int32} {S : xSt} {q : ((xSt × Int32 × Int32) ⊕ (xSt × Int32))} (h : f_X4_value_4 o S x1 x2 = some q) (k0 : ∀ t0 : xSt × Int32, q = (.inr t0) → t0 = (S', v')) (k1 : ∀ (S : xSt) (x1 : Int32) (x2 : Int32), q = (.inl (S, x1, x2)) → ∀ (H : Heap) (locs : List Loc) (ls : Array Slot), xG D cy xtb a S s H locs → lv_has ls 3 [(0, .ref (a o)), (1, .int x1), (2, .int x2)] → W p l e ({ frames := 1, cells := 0, slots := 0, locals := 21 } : Room) s m args below meth c H locs 0 0 (MQ below (xQi D cy xtb a S' v' s.heap.size) args s 0 0 (xA xtb a s.heap.size)) (F0 m 4 ls [])) {H : Heap} {locs : List Loc} (hG : xG D cy xtb a S s H locs) {ls : Array Slot} (hl : lv_has ls 3 [(0, .ref (a o)), (1, .int x1), (2, .int x2)]) : W p l e ({ frames := 1, cells := 0, slots := 0, locals := 21 } : Room) s m args below meth c H locs 0 0 (MQ below (xQi D cy xtb a S' v' s.heap.size) args s 0 0 (xA xtb a s.heap.size)) (F0 m 4 ls []) := by
  have hx := hM.1
  have hb := hM.2.1
  refine lv_iload_n hx hb dX4_value_4 rfl (lv_at hl 2 rfl) ?_
  refine lv_bipush (v := (30 : Int32)) hx hb dX4_value_5 (by decide) ?_
  refine x_icmp_ge (tgt := 49) hM h dX4_value_7 (by decide) (fun c_1 h => ?_) (fun c_1 h => ?_)
  · refine lv_iload_n hx hb dX4_value_49 rfl (lv_at hl 1 rfl) ?_
    exact x_ri hM hG hr hlk rfl (k0 _ (Option.some.inj h).symm) dX4_value_50
  · refine lv_aload_n hx hb dX4_value_10 rfl (lv_at hl 0 rfl) ?_
    refine lv_iload_n hx hb dX4_value_11 rfl (lv_at hl 2 rfl) ?_
    refine x_cVi (As := [.int x2]) (rest := []) hM hG xml_X4_73 xwi_X4_has xws_X4_has ho.1 (by decide) rfl h (fun S' v e => c_X4_has hM.2.2.2.2.2.2.1 ho e _) ⟨Nat.le_of_ble_eq_true rfl, Nat.le_of_ble_eq_true rfl⟩ rfl hl.1 rfl (Nat.le_of_ble_eq_true rfl) dX4_value_12 (fun S_2 v_3 H locs h hG => ?_)
    refine x_if_eq (tgt := 43) hM h dX4_value_15 (by decide) (fun c_4 h => ?_) (fun c_4 h => ?_)
    · exact w_X4_value_43 ho hM hr hlk h (fun t0 e => k0 t0 e) (fun S x1 x2 e => k1 S x1 x2 e) hG (lv_sub hl [0, 1, 2] rfl)
    · refine lv_aload_n hx hb dX4_value_18 rfl (lv_at hl 0 rfl) ?_
      refine x_gr (r := o + 4) hM hG xfl_X4_21 ho.1 (by decide) rfl dX4_value_19 ?_
      refine lv_iload_n hx hb dX4_value_22 rfl (lv_at hl 2 rfl) ?_
      refine x_iald hM hG ho.2.2.2.2.1 h dX4_value_23 (fun v_5 h => ?_)
      refine lv_aload_n hx hb dX4_value_24 rfl (lv_at hl 0 rfl) ?_
      refine x_gi hM hG xfl_X4_39 ho.1 (by decide) rfl h dX4_value_25 (fun v_6 h => ?_)
      refine x_icmp_ge (tgt := 43) hM h dX4_value_28 (by decide) (fun c_7 h => ?_) (fun c_7 h => ?_)
      · exact w_X4_value_43 ho hM hr hlk h (fun t0 e => k0 t0 e) (fun S x1 x2 e => k1 S x1 x2 e) hG (lv_sub hl [0, 1, 2] rfl)
      · refine lv_iload_n hx hb dX4_value_31 rfl (lv_at hl 1 rfl) ?_
        refine lv_aload_n hx hb dX4_value_32 rfl (lv_at hl 0 rfl) ?_
        refine x_gr (r := o + 5) hM hG xfl_X4_24 ho.1 (by decide) rfl dX4_value_33 ?_
        refine lv_iload_n hx hb dX4_value_36 rfl (lv_at hl 2 rfl) ?_
        refine x_iald hM hG ho.2.2.2.2.2.1 h dX4_value_37 (fun v_8 h => ?_)
        refine lv_bipush (v := (9 : Int32)) hx hb dX4_value_38 (by decide) ?_
        refine x_idiv hM h dX4_value_40 (fun v_9 h => ?_)
        refine x_iadd hM h dX4_value_41 (fun v_10 h => ?_)
        refine lv_istore_n (lv' := [(1, .int v_10), (0, .ref (a o)), (2, .int x2)]) hx hb dX4_value_42 rfl hl (by decide) rfl (fun ls hl => ?_)
        exact w_X4_value_43 ho hM hr hlk h (fun t0 e => k0 t0 e) (fun S x1 x2 e => k1 S x1 x2 e) hG (lv_sub hl [1, 0, 2] rfl)
theorem wl_X4_value_4 {o : Nat} (ho : xIs_X4 o) (hM : xM p c cX4_value m s args RX4 3 D cy xtb a z) (hr : meth.sig.returnType = (some .int)) (hlk : meth.locks = false) {S' : xSt} {v' : Int32} {q : (xSt × Int32)} (k0 : ∀ t0 : xSt × Int32, q = t0 → t0 = (S', v')) (n : Nat) : ∀ (S : xSt) (x1 : Int32) (x2 : Int32) (H : Heap) (locs : List Loc) (ls : Array Slot), xlp (fun q : (xSt × Int32 × Int32) => f_X4_value_4 o q.1 q.2.1 q.2.2) n (S, x1, x2) = some q → xG D cy xtb a S s H locs → lv_has ls 3 [(0, .ref (a o)), (1, .int x1), (2, .int x2)] → W p l e ({ frames := 1, cells := 0, slots := 0, locals := 21 } : Room) s m args below meth c H locs 0 0 (MQ below (xQi D cy xtb a S' v' s.heap.size) args s 0 0 (xA xtb a s.heap.size)) (F0 m 4 ls []) := by
  induction n with
  | zero => intro S x1 x2 H locs ls h; exact (xlp_0 h).elim
  | succ n ih =>
    intro S x1 x2 H locs ls h hG hl
    obtain ⟨q1, hq, hc, he⟩ := xlp_at h
    exact w_X4_value_4 ho hM hr hlk (q := q1) hq (fun t0 e => k0 t0 (he _ e).symm) (fun S x1 x2 e H locs ls hG hl => ih S x1 x2 H locs ls (hc _ e) hG hl) hG hl
set_option maxHeartbeats 4000000 in
set_option maxRecDepth 100000 in
theorem w_X4_value_0 {o : Nat} (ho : xIs_X4 o) (hM : xM p c cX4_value m s args RX4 3 D cy xtb a z) (hr : meth.sig.returnType = (some .int)) (hlk : meth.locks = false) {S' : xSt} {v' : Int32} {S : xSt} {q : (xSt × Int32)} (h : f_X4_value_0 o S = some q) (k0 : ∀ t0 : xSt × Int32, q = t0 → t0 = (S', v')) {H : Heap} {locs : List Loc} (hG : xG D cy xtb a S s H locs) {ls : Array Slot} (hl : lv_has ls 3 [(0, .ref (a o))]) : W p l e ({ frames := 1, cells := 0, slots := 0, locals := 21 } : Room) s m args below meth c H locs 0 0 (MQ below (xQi D cy xtb a S' v' s.heap.size) args s 0 0 (xA xtb a s.heap.size)) (F0 m 0 ls []) := by
  have hx := hM.1
  have hb := hM.2.1
  refine lv_iconst (v := (0 : Int32)) hx hb dX4_value_0 (by decide) ?_
  refine lv_istore_n (lv' := [(1, .int (0 : Int32)), (0, .ref (a o))]) hx hb dX4_value_1 rfl hl (by decide) rfl (fun ls hl => ?_)
  refine lv_iconst (v := (0 : Int32)) hx hb dX4_value_2 (by decide) ?_
  refine lv_istore_n (lv' := [(2, .int (0 : Int32)), (1, .int (0 : Int32)), (0, .ref (a o))]) hx hb dX4_value_3 rfl hl (by decide) rfl (fun ls hl => ?_)
  exact wl_X4_value_4 ho hM hr hlk (fun t0 e => k0 t0 e) 5000 _ _ _ _ _ _ h hG (lv_sub hl [2, 1, 0] rfl)
set_option maxHeartbeats 4000000 in
set_option maxRecDepth 100000 in
theorem c_X4_value {l : Launch} {D : va_G} {cy : Nat → ClassId} {a z : Nat → Nat} (hI : xI xtb a) {o : Nat} (ho : xIs_X4 o) {S : xSt} {S' : xSt} {v' : Int32} (hf : f_X4_value o S = some (S', v')) (sz : Nat) : Met l yX4_value (Cond.code yX4_value cX4_value 3 (some .int) :: xTB) ({ frames := 1, cells := 0, slots := 0, locals := 21 } : Room) (va_Pc [.ref (a o)] (xPre D cy xtb a z S sz)) (xQi D cy xtb a S' v' sz) 0 0 (xA xtb a sz) := by
  refine Met.ofW (cc := cX4_value) (maxL := 3) (ret := (some .int)) (by decide) rfl ?_
  intro p e s m args below meth c s₁ B hml hv
  obtain ⟨rfl, hsz, hP, hK, hE⟩ := hv
  subst hsz
  have hl := lv_entry ([.ref (a o)]) (n := 3) (Nat.le_of_ble_eq_true rfl)
  rw [lg_entry_eq]
  generalize (lg_sl ([.ref (a o)]) ++ List.replicate (3 - (lg_sl ([.ref (a o)])).length) Slot.unset).toArray = ls at hl ⊢
  have hl : lv_has ls 3 [(0, .ref (a o))] := hl
  exact w_X4_value_0 ho ⟨B.exec, B.bytes, hml, findClass_of_methodNamed B.named, fun w hw => atoms_spec (ws := Cond.code yX4_value cX4_value 3 (some .int) :: xTB) B.pre w (List.mem_cons_of_mem _ hw), hK, hI, hE⟩ B.returns B.notSynchronized hf (fun t0 e => e.symm) ⟨hP, va_S.rf⟩ (lv_sub hl [0] rfl)
set_option maxHeartbeats 4000000 in
set_option maxRecDepth 100000 in
theorem w_X5_become_70 {x2 : Int32} (hM : xM p c cX5_become m s args RX5 3 D cy xtb a z) (hr : meth.sig.returnType = none) (hlk : meth.locks = false) {S' : xSt} {v' : Unit} {S : xSt} {q : ((xSt × Int32) ⊕ (xSt × Unit))} (h : f_X5_become_70 S x2 = some q) (k0 : ∀ t0 : xSt × Unit, q = (.inr t0) → t0 = (S', v')) (k1 : ∀ (S : xSt) (x2 : Int32), q = (.inl (S, x2)) → ∀ (H : Heap) (locs : List Loc) (ls : Array Slot), xG D cy xtb a S s H locs → lv_has ls 3 [(0, .ref (a 8)), (2, .int x2)] → W p l e ({ frames := 1, cells := 0, slots := 0, locals := 26 } : Room) s m args below meth c H locs 0 0 (MQ below (xQv D cy xtb a S' v' s.heap.size) args s 0 0 (xA xtb a s.heap.size)) (F0 m 70 ls [])) {H : Heap} {locs : List Loc} (hG : xG D cy xtb a S s H locs) {ls : Array Slot} (hl : lv_has ls 3 [(0, .ref (a 8)), (2, .int x2)]) : W p l e ({ frames := 1, cells := 0, slots := 0, locals := 26 } : Room) s m args below meth c H locs 0 0 (MQ below (xQv D cy xtb a S' v' s.heap.size) args s 0 0 (xA xtb a s.heap.size)) (F0 m 70 ls []) := by
  have hx := hM.1
  have hb := hM.2.1
  refine lv_iload_n hx hb dX5_become_70 rfl (lv_at hl 1 rfl) ?_
  refine lv_sipush (v := (2048 : Int32)) hx hb dX5_become_71 (by decide) ?_
  refine x_icmp_ge (tgt := 90) hM h dX5_become_74 (by decide) (fun c_1 h => ?_) (fun c_1 h => ?_)
  · exact x_rv hM hG hr hlk (k0 _ (Option.some.inj h).symm) dX5_become_90
  · refine lv_aload_n hx hb dX5_become_77 rfl (lv_at hl 0 rfl) ?_
    refine x_gr (r := 15) hM hG xfl_X5_32 xct_8 (by decide) rfl dX5_become_78 ?_
    refine lv_iload_n hx hb dX5_become_81 rfl (lv_at hl 1 rfl) ?_
    refine lv_iconst (v := (0 : Int32)) hx hb dX5_become_82 (by decide) ?_
    refine x_iast hM hG xct_15 h dX5_become_83 (fun S_2 H locs h hG => ?_)
    refine x_iinc hM (fun v => [(2, .int v), (0, .ref (a 8))]) h dX5_become_84 hl (k := 1) rfl (by decide) (by decide) (fun _ => rfl) (fun v_3 ls h hl => ?_)
    refine lv_goto (tgt := 70) hx hb dX5_become_87 (by decide) ?_
    exact k1 _ _ (Option.some.inj h).symm _ _ _ hG (lv_sub hl [1, 0] rfl)
theorem wl_X5_become_70 (hM : xM p c cX5_become m s args RX5 3 D cy xtb a z) (hr : meth.sig.returnType = none) (hlk : meth.locks = false) {S' : xSt} {v' : Unit} {q : (xSt × Unit)} (k0 : ∀ t0 : xSt × Unit, q = t0 → t0 = (S', v')) (n : Nat) : ∀ (S : xSt) (x2 : Int32) (H : Heap) (locs : List Loc) (ls : Array Slot), xlp (fun q : (xSt × Int32) => f_X5_become_70 q.1 q.2) n (S, x2) = some q → xG D cy xtb a S s H locs → lv_has ls 3 [(0, .ref (a 8)), (2, .int x2)] → W p l e ({ frames := 1, cells := 0, slots := 0, locals := 26 } : Room) s m args below meth c H locs 0 0 (MQ below (xQv D cy xtb a S' v' s.heap.size) args s 0 0 (xA xtb a s.heap.size)) (F0 m 70 ls []) := by
  induction n with
  | zero => intro S x2 H locs ls h; exact (xlp_0 h).elim
  | succ n ih =>
    intro S x2 H locs ls h hG hl
    obtain ⟨q1, hq, hc, he⟩ := xlp_at h
    exact w_X5_become_70 hM hr hlk (q := q1) hq (fun t0 e => k0 t0 (he _ e).symm) (fun S x2 e H locs ls hG hl => ih S x2 H locs ls (hc _ e) hG hl) hG hl
set_option maxHeartbeats 4000000 in
set_option maxRecDepth 100000 in
theorem w_X5_become_0 (hM : xM p c cX5_become m s args RX5 3 D cy xtb a z) (hr : meth.sig.returnType = none) (hlk : meth.locks = false) {S' : xSt} {v' : Unit} {S : xSt} {q : (xSt × Unit)} (h : f_X5_become_0 S = some q) (k0 : ∀ t0 : xSt × Unit, q = t0 → t0 = (S', v')) {H : Heap} {locs : List Loc} (hG : xG D cy xtb a S s H locs) {ls : Array Slot} (hl : lv_has ls 3 [(0, .ref (a 8)), (1, .ref (a 2))]) : W p l e ({ frames := 1, cells := 0, slots := 0, locals := 26 } : Room) s m args below meth c H locs 0 0 (MQ below (xQv D cy xtb a S' v' s.heap.size) args s 0 0 (xA xtb a s.heap.size)) (F0 m 0 ls []) := by
  have hx := hM.1
  have hb := hM.2.1
  refine lv_aload_n hx hb dX5_become_0 rfl (lv_at hl 0 rfl) ?_
  refine lv_aload_n hx hb dX5_become_1 rfl (lv_at hl 1 rfl) ?_
  refine x_gi hM hG xfl_X5_35 xct_2 (by decide) rfl h dX5_become_2 (fun v_1 h => ?_)
  refine x_pi hM hG xfl_X5_39 xfp_X5_0 xct_8 (by decide) rfl rfl rfl h dX5_become_5 (fun S_2 H locs h hG => ?_)
  refine lv_aload_n hx hb dX5_become_8 rfl (lv_at hl 1 rfl) ?_
  refine x_gr (r := 4) hM hG xfl_X5_40 xct_2 (by decide) rfl dX5_become_9 ?_
  refine lv_iconst (v := (0 : Int32)) hx hb dX5_become_12 (by decide) ?_
  refine lv_aload_n hx hb dX5_become_13 rfl (lv_at hl 0 rfl) ?_
  refine x_gr (r := 9) hM hG xfl_X5_11 xct_8 (by decide) rfl dX5_become_14 ?_
  refine lv_iconst (v := (0 : Int32)) hx hb dX5_become_17 (by decide) ?_
  refine lv_bipush (v := (120 : Int32)) hx hb dX5_become_18 (by decide) ?_
  refine x_cpi hM hG hl.1 xcp_X5_41 xct_4 xct_9 h (Nat.le_of_ble_eq_true rfl) (Nat.le_of_ble_eq_true rfl) dX5_become_20 (fun S_3 H locs h hG => ?_)
  refine lv_aload_n hx hb dX5_become_23 rfl (lv_at hl 1 rfl) ?_
  refine x_gr (r := 5) hM hG xfl_X5_47 xct_2 (by decide) rfl dX5_become_24 ?_
  refine lv_iconst (v := (0 : Int32)) hx hb dX5_become_27 (by decide) ?_
  refine lv_aload_n hx hb dX5_become_28 rfl (lv_at hl 0 rfl) ?_
  refine x_gr (r := 10) hM hG xfl_X5_17 xct_8 (by decide) rfl dX5_become_29 ?_
  refine lv_iconst (v := (0 : Int32)) hx hb dX5_become_32 (by decide) ?_
  refine lv_bipush (v := (120 : Int32)) hx hb dX5_become_33 (by decide) ?_
  refine x_cpi hM hG hl.1 xcp_X5_41 xct_5 xct_10 h (Nat.le_of_ble_eq_true rfl) (Nat.le_of_ble_eq_true rfl) dX5_become_35 (fun S_4 H locs h hG => ?_)
  refine lv_aload_n hx hb dX5_become_38 rfl (lv_at hl 1 rfl) ?_
  refine x_gr (r := 6) hM hG xfl_X5_48 xct_2 (by decide) rfl dX5_become_39 ?_
  refine lv_iconst (v := (0 : Int32)) hx hb dX5_become_42 (by decide) ?_
  refine lv_aload_n hx hb dX5_become_43 rfl (lv_at hl 0 rfl) ?_
  refine x_gr (r := 11) hM hG xfl_X5_20 xct_8 (by decide) rfl dX5_become_44 ?_
  refine lv_iconst (v := (0 : Int32)) hx hb dX5_become_47 (by decide) ?_
  refine lv_bipush (v := (120 : Int32)) hx hb dX5_become_48 (by decide) ?_
  refine x_cpi hM hG hl.1 xcp_X5_41 xct_6 xct_11 h (Nat.le_of_ble_eq_true rfl) (Nat.le_of_ble_eq_true rfl) dX5_become_50 (fun S_5 H locs h hG => ?_)
  refine lv_aload_n hx hb dX5_become_53 rfl (lv_at hl 1 rfl) ?_
  refine x_gr (r := 7) hM hG xfl_X5_49 xct_2 (by decide) rfl dX5_become_54 ?_
  refine lv_iconst (v := (0 : Int32)) hx hb dX5_become_57 (by decide) ?_
  refine lv_aload_n hx hb dX5_become_58 rfl (lv_at hl 0 rfl) ?_
  refine x_gr (r := 12) hM hG xfl_X5_23 xct_8 (by decide) rfl dX5_become_59 ?_
  refine lv_iconst (v := (0 : Int32)) hx hb dX5_become_62 (by decide) ?_
  refine lv_bipush (v := (120 : Int32)) hx hb dX5_become_63 (by decide) ?_
  refine x_cpi hM hG hl.1 xcp_X5_41 xct_7 xct_12 h (Nat.le_of_ble_eq_true rfl) (Nat.le_of_ble_eq_true rfl) dX5_become_65 (fun S_6 H locs h hG => ?_)
  refine lv_iconst (v := (0 : Int32)) hx hb dX5_become_68 (by decide) ?_
  refine lv_istore_n (lv' := [(2, .int (0 : Int32)), (0, .ref (a 8)), (1, .ref (a 2))]) hx hb dX5_become_69 rfl hl (by decide) rfl (fun ls hl => ?_)
  exact wl_X5_become_70 hM hr hlk (fun t0 e => k0 t0 e) 5000 _ _ _ _ _ h hG (lv_sub hl [1, 0] rfl)
set_option maxHeartbeats 4000000 in
set_option maxRecDepth 100000 in
theorem c_X5_become {l : Launch} {D : va_G} {cy : Nat → ClassId} {a z : Nat → Nat} (hI : xI xtb a) {S : xSt} {S' : xSt} {v' : Unit} (hf : f_X5_become S = some (S', v')) (sz : Nat) : Met l yX5_become (Cond.code yX5_become cX5_become 3 none :: xTB) ({ frames := 1, cells := 0, slots := 0, locals := 26 } : Room) (va_Pc [.ref (a 8), .ref (a 2)] (xPre D cy xtb a z S sz)) (xQv D cy xtb a S' v' sz) 0 0 (xA xtb a sz) := by
  refine Met.ofW (cc := cX5_become) (maxL := 3) (ret := none) (by decide) rfl ?_
  intro p e s m args below meth c s₁ B hml hv
  obtain ⟨rfl, hsz, hP, hK, hE⟩ := hv
  subst hsz
  have hl := lv_entry ([.ref (a 8), .ref (a 2)]) (n := 3) (Nat.le_of_ble_eq_true rfl)
  rw [lg_entry_eq]
  generalize (lg_sl ([.ref (a 8), .ref (a 2)]) ++ List.replicate (3 - (lg_sl ([.ref (a 8), .ref (a 2)])).length) Slot.unset).toArray = ls at hl ⊢
  have hl : lv_has ls 3 [(0, .ref (a 8)), (1, .ref (a 2))] := hl
  exact w_X5_become_0 ⟨B.exec, B.bytes, hml, findClass_of_methodNamed B.named, fun w hw => atoms_spec (ws := Cond.code yX5_become cX5_become 3 none :: xTB) B.pre w (List.mem_cons_of_mem _ hw), hK, hI, hE⟩ B.returns B.notSynchronized hf (fun t0 e => e.symm) ⟨hP, va_S.rf⟩ (lv_sub hl [0, 1] rfl)
set_option maxHeartbeats 4000000 in
set_option maxRecDepth 100000 in
theorem w_X6_placeOf_17 (hM : xM p c cX6_placeOf m s args RX6 2 D cy xtb a z) (hr : meth.sig.returnType = (some .int)) (hlk : meth.locks = false) {S' : xSt} {v' : Int32} {S : xSt} {q : (xSt × Int32)} (h : f_X6_placeOf_17 S = some q) (k0 : ∀ t0 : xSt × Int32, q = t0 → t0 = (S', v')) {H : Heap} {locs : List Loc} (hG : xG D cy xtb a S s H locs) {ls : Array Slot} (hl : lv_has ls 2 []) : W p l e ({ frames := 0, cells := 0, slots := 0, locals := 0 } : Room) s m args below meth c H locs 0 0 (MQ below (xQi D cy xtb a S' v' s.heap.size) args s 0 0 (xA xtb a s.heap.size)) (F0 m 17 ls []) := by
  have hx := hM.1
  have hb := hM.2.1
  refine lv_bipush (v := (-2 : Int32)) hx hb dX6_placeOf_17 (by decide) ?_
  refine lv_goto (tgt := 28) hx hb dX6_placeOf_19 (by decide) ?_
  exact x_ri hM hG hr hlk rfl (k0 _ (Option.some.inj h).symm) dX6_placeOf_28
set_option maxHeartbeats 4000000 in
set_option maxRecDepth 100000 in
theorem w_X6_placeOf_0 {x1 : Int32} (hM : xM p c cX6_placeOf m s args RX6 2 D cy xtb a z) (hr : meth.sig.returnType = (some .int)) (hlk : meth.locks = false) {S' : xSt} {v' : Int32} {S : xSt} {q : (xSt × Int32)} (h : f_X6_placeOf_0 x1 S = some q) (k0 : ∀ t0 : xSt × Int32, q = t0 → t0 = (S', v')) {H : Heap} {locs : List Loc} (hG : xG D cy xtb a S s H locs) {ls : Array Slot} (hl : lv_has ls 2 [(0, .ref (a 89)), (1, .int x1)]) : W p l e ({ frames := 0, cells := 0, slots := 0, locals := 0 } : Room) s m args below meth c H locs 0 0 (MQ below (xQi D cy xtb a S' v' s.heap.size) args s 0 0 (xA xtb a s.heap.size)) (F0 m 0 ls []) := by
  have hx := hM.1
  have hb := hM.2.1
  refine lv_aload_n hx hb dX6_placeOf_0 rfl (lv_at hl 0 rfl) ?_
  refine x_gi hM hG xfl_X6_28 xct_89 (by decide) rfl h dX6_placeOf_1 (fun v_1 h => ?_)
  refine lv_bipush (v := (-2 : Int32)) hx hb dX6_placeOf_4 (by decide) ?_
  refine x_icmp_eq (tgt := 17) hM h dX6_placeOf_6 (by decide) (fun c_2 h => ?_) (fun c_2 h => ?_)
  · exact w_X6_placeOf_17 hM hr hlk h (fun t0 e => k0 t0 e) hG (lv_sub hl [] rfl)
  · refine lv_iload_n hx hb dX6_placeOf_9 rfl (lv_at hl 1 rfl) ?_
    refine lv_aload_n hx hb dX6_placeOf_10 rfl (lv_at hl 0 rfl) ?_
    refine x_gi hM hG xfl_X6_32 xct_89 (by decide) rfl h dX6_placeOf_11 (fun v_3 h => ?_)
    refine x_icmp_lt (tgt := 22) hM h dX6_placeOf_14 (by decide) (fun c_4 h => ?_) (fun c_4 h => ?_)
    · refine lv_aload_n hx hb dX6_placeOf_22 rfl (lv_at hl 0 rfl) ?_
      refine x_gr (r := 92) hM hG xfl_X6_18 xct_89 (by decide) rfl dX6_placeOf_23 ?_
      refine lv_iload_n hx hb dX6_placeOf_26 rfl (lv_at hl 1 rfl) ?_
      refine x_iald hM hG xct_92 h dX6_placeOf_27 (fun v_5 h => ?_)
      exact x_ri hM hG hr hlk rfl (k0 _ (Option.some.inj h).symm) dX6_placeOf_28
    · exact w_X6_placeOf_17 hM hr hlk h (fun t0 e => k0 t0 e) hG (lv_sub hl [] rfl)
set_option maxHeartbeats 4000000 in
set_option maxRecDepth 100000 in
theorem c_X6_placeOf {l : Launch} {D : va_G} {cy : Nat → ClassId} {a z : Nat → Nat} (hI : xI xtb a) {S : xSt} {x1 : Int32} {S' : xSt} {v' : Int32} (hf : f_X6_placeOf S x1 = some (S', v')) (sz : Nat) : Met l yX6_placeOf (Cond.code yX6_placeOf cX6_placeOf 2 (some .int) :: xTB) ({ frames := 0, cells := 0, slots := 0, locals := 0 } : Room) (va_Pc [.ref (a 89), .int x1] (xPre D cy xtb a z S sz)) (xQi D cy xtb a S' v' sz) 0 0 (xA xtb a sz) := by
  refine Met.ofW (cc := cX6_placeOf) (maxL := 2) (ret := (some .int)) (by decide) rfl ?_
  intro p e s m args below meth c s₁ B hml hv
  obtain ⟨rfl, hsz, hP, hK, hE⟩ := hv
  subst hsz
  have hl := lv_entry ([.ref (a 89), .int x1]) (n := 2) (Nat.le_of_ble_eq_true rfl)
  rw [lg_entry_eq]
  generalize (lg_sl ([.ref (a 89), .int x1]) ++ List.replicate (2 - (lg_sl ([.ref (a 89), .int x1])).length) Slot.unset).toArray = ls at hl ⊢
  have hl : lv_has ls 2 [(0, .ref (a 89)), (1, .int x1)] := hl
  exact w_X6_placeOf_0 ⟨B.exec, B.bytes, hml, findClass_of_methodNamed B.named, fun w hw => atoms_spec (ws := Cond.code yX6_placeOf cX6_placeOf 2 (some .int) :: xTB) B.pre w (List.mem_cons_of_mem _ hw), hK, hI, hE⟩ B.returns B.notSynchronized hf (fun t0 e => e.symm) ⟨hP, va_S.rf⟩ (lv_sub hl [0, 1] rfl)
set_option maxHeartbeats 4000000 in
set_option maxRecDepth 100000 in
theorem w_X6_takeLoads_7 {o1 : Nat} (ho1 : xIs_X8 o1) {x2 : Int32} (hM : xM p c cX6_takeLoads m s args RX6 5 D cy xtb a z) (hr : meth.sig.returnType = none) (hlk : meth.locks = false) {S' : xSt} {v' : Unit} {S : xSt} {q : ((xSt × Int32) ⊕ (xSt × Unit))} (h : f_X6_takeLoads_7 o1 S x2 = some q) (k0 : ∀ t0 : xSt × Unit, q = (.inr t0) → t0 = (S', v')) (k1 : ∀ (S : xSt) (x2 : Int32), q = (.inl (S, x2)) → ∀ (H : Heap) (locs : List Loc) (ls : Array Slot), xG D cy xtb a S s H locs → lv_has ls 5 [(0, .ref (a 89)), (1, .ref (a o1)), (2, .int x2)] → W p l e ({ frames := 0, cells := 0, slots := 0, locals := 0 } : Room) s m args below meth c H locs 0 0 (MQ below (xQv D cy xtb a S' v' s.heap.size) args s 0 0 (xA xtb a s.heap.size)) (F0 m 7 ls [])) {H : Heap} {locs : List Loc} (hG : xG D cy xtb a S s H locs) {ls : Array Slot} (hl : lv_has ls 5 [(0, .ref (a 89)), (1, .ref (a o1)), (2, .int x2)]) : W p l e ({ frames := 0, cells := 0, slots := 0, locals := 0 } : Room) s m args below meth c H locs 0 0 (MQ below (xQv D cy xtb a S' v' s.heap.size) args s 0 0 (xA xtb a s.heap.size)) (F0 m 7 ls []) := by
  have hx := hM.1
  have hb := hM.2.1
  refine lv_iload_n hx hb dX6_takeLoads_7 rfl (lv_at hl 2 rfl) ?_
  refine lv_aload_n hx hb dX6_takeLoads_8 rfl (lv_at hl 1 rfl) ?_
  refine x_gi hM hG xfl_X6_55 ho1.1 (by decide) rfl h dX6_takeLoads_9 (fun v_1 h => ?_)
  refine x_icmp_ge (tgt := 70) hM h dX6_takeLoads_12 (by decide) (fun c_2 h => ?_) (fun c_2 h => ?_)
  · exact x_rv hM hG hr hlk (k0 _ (Option.some.inj h).symm) dX6_takeLoads_70
  · refine lv_iload_n hx hb dX6_takeLoads_15 rfl (lv_at hl 2 rfl) ?_
    refine lv_bipush (v := (6 : Int32)) hx hb dX6_takeLoads_16 (by decide) ?_
    refine x_icmp_ge (tgt := 70) hM h dX6_takeLoads_18 (by decide) (fun c_3 h => ?_) (fun c_3 h => ?_)
    · exact x_rv hM hG hr hlk (k0 _ (Option.some.inj h).symm) dX6_takeLoads_70
    · refine lv_aload_n hx hb dX6_takeLoads_21 rfl (lv_at hl 1 rfl) ?_
      refine x_gr (r := o1 + 1) hM hG xfl_X6_58 ho1.1 (by decide) rfl dX6_takeLoads_22 ?_
      refine lv_iload_n hx hb dX6_takeLoads_25 rfl (lv_at hl 2 rfl) ?_
      refine x_lald hM hG ho1.2 h dX6_takeLoads_26 (fun v_4 h => ?_)
      refine lv_lstore_n (lv' := [(3, .long v_4), (0, .ref (a 89)), (1, .ref (a o1)), (2, .int x2)]) hx hb dX6_takeLoads_27 rfl hl (by decide) rfl (fun ls hl => ?_)
      refine lv_lload_n hx hb dX6_takeLoads_28 rfl (lv_at hl 0 rfl) ?_
      refine lv_lconst (v := (0 : Int64)) hx hb dX6_takeLoads_29 (by decide) ?_
      refine x_lcmp hM h dX6_takeLoads_30 (fun v_5 h => ?_)
      refine x_if_lt (tgt := 45) hM h dX6_takeLoads_31 (by decide) (fun c_6 h => ?_) (fun c_6 h => ?_)
      · exact x_rv hM hG hr hlk (k0 _ (Option.some.inj h).symm) dX6_takeLoads_45
      · refine lv_lload_n hx hb dX6_takeLoads_34 rfl (lv_at hl 0 rfl) ?_
        refine x_gsN hM hG hM.2.2.2.2.2.2.2.2.2 hM.2.2.2.2.2.2.2.1.2.2.1 dX6_takeLoads_35 ?_
        refine lv_iconst (v := (0 : Int32)) hx hb dX6_takeLoads_38 (by decide) ?_
        refine x_tald hM hG hM.2.2.2.2.2.2.2.2.2 h dX6_takeLoads_39 (fun v_7 h => ?_)
        refine x_i2l hM h dX6_takeLoads_40 (fun v_8 h => ?_)
        refine x_lcmp hM h dX6_takeLoads_41 (fun v_9 h => ?_)
        refine x_if_le (tgt := 46) hM h dX6_takeLoads_42 (by decide) (fun c_10 h => ?_) (fun c_10 h => ?_)
        · refine lv_aload_n hx hb dX6_takeLoads_46 rfl (lv_at hl 1 rfl) ?_
          refine x_gr (r := 90) hM hG xfl_X6_9 xct_89 (by decide) rfl dX6_takeLoads_47 ?_
          refine lv_iload_n hx hb dX6_takeLoads_50 rfl (lv_at hl 3 rfl) ?_
          refine lv_lload_n hx hb dX6_takeLoads_51 rfl (lv_at hl 0 rfl) ?_
          refine x_l2i hM h dX6_takeLoads_52 (fun v_11 h => ?_)
          refine x_iast hM hG xct_90 h dX6_takeLoads_53 (fun S_12 H locs h hG => ?_)
          refine lv_aload_n hx hb dX6_takeLoads_54 rfl (lv_at hl 1 rfl) ?_
          refine lv_dup hx hb dX6_takeLoads_55 rfl ?_
          refine x_gi hM hG xfl_X6_32 xct_89 (by decide) rfl h dX6_takeLoads_56 (fun v_13 h => ?_)
          refine lv_iconst (v := (1 : Int32)) hx hb dX6_takeLoads_59 (by decide) ?_
          refine x_iadd hM h dX6_takeLoads_60 (fun v_14 h => ?_)
          refine x_pi hM hG xfl_X6_32 xfp_X6_5 xct_89 (by decide) rfl rfl rfl h dX6_takeLoads_61 (fun S_15 H locs h hG => ?_)
          refine x_iinc hM (fun v => [(2, .int v), (3, .long v_4), (0, .ref (a 89)), (1, .ref (a o1))]) h dX6_takeLoads_64 hl (k := 3) rfl (by decide) (by decide) (fun _ => rfl) (fun v_16 ls h hl => ?_)
          refine lv_goto (tgt := 7) hx hb dX6_takeLoads_67 (by decide) ?_
          exact k1 _ _ (Option.some.inj h).symm _ _ _ hG (lv_sub hl [2, 3, 0] rfl)
        · exact x_rv hM hG hr hlk (k0 _ (Option.some.inj h).symm) dX6_takeLoads_45
theorem wl_X6_takeLoads_7 {o1 : Nat} (ho1 : xIs_X8 o1) (hM : xM p c cX6_takeLoads m s args RX6 5 D cy xtb a z) (hr : meth.sig.returnType = none) (hlk : meth.locks = false) {S' : xSt} {v' : Unit} {q : (xSt × Unit)} (k0 : ∀ t0 : xSt × Unit, q = t0 → t0 = (S', v')) (n : Nat) : ∀ (S : xSt) (x2 : Int32) (H : Heap) (locs : List Loc) (ls : Array Slot), xlp (fun q : (xSt × Int32) => f_X6_takeLoads_7 o1 q.1 q.2) n (S, x2) = some q → xG D cy xtb a S s H locs → lv_has ls 5 [(0, .ref (a 89)), (1, .ref (a o1)), (2, .int x2)] → W p l e ({ frames := 0, cells := 0, slots := 0, locals := 0 } : Room) s m args below meth c H locs 0 0 (MQ below (xQv D cy xtb a S' v' s.heap.size) args s 0 0 (xA xtb a s.heap.size)) (F0 m 7 ls []) := by
  induction n with
  | zero => intro S x2 H locs ls h; exact (xlp_0 h).elim
  | succ n ih =>
    intro S x2 H locs ls h hG hl
    obtain ⟨q1, hq, hc, he⟩ := xlp_at h
    exact w_X6_takeLoads_7 ho1 hM hr hlk (q := q1) hq (fun t0 e => k0 t0 (he _ e).symm) (fun S x2 e H locs ls hG hl => ih S x2 H locs ls (hc _ e) hG hl) hG hl
set_option maxHeartbeats 4000000 in
set_option maxRecDepth 100000 in
theorem w_X6_takeLoads_0 {o1 : Nat} (ho1 : xIs_X8 o1) (hM : xM p c cX6_takeLoads m s args RX6 5 D cy xtb a z) (hr : meth.sig.returnType = none) (hlk : meth.locks = false) {S' : xSt} {v' : Unit} {S : xSt} {q : (xSt × Unit)} (h : f_X6_takeLoads_0 o1 S = some q) (k0 : ∀ t0 : xSt × Unit, q = t0 → t0 = (S', v')) {H : Heap} {locs : List Loc} (hG : xG D cy xtb a S s H locs) {ls : Array Slot} (hl : lv_has ls 5 [(0, .ref (a 89)), (1, .ref (a o1))]) : W p l e ({ frames := 0, cells := 0, slots := 0, locals := 0 } : Room) s m args below meth c H locs 0 0 (MQ below (xQv D cy xtb a S' v' s.heap.size) args s 0 0 (xA xtb a s.heap.size)) (F0 m 0 ls []) := by
  have hx := hM.1
  have hb := hM.2.1
  refine lv_aload_n hx hb dX6_takeLoads_0 rfl (lv_at hl 0 rfl) ?_
  refine lv_iconst (v := (0 : Int32)) hx hb dX6_takeLoads_1 (by decide) ?_
  refine x_pi hM hG xfl_X6_32 xfp_X6_5 xct_89 (by decide) rfl rfl rfl h dX6_takeLoads_2 (fun S_1 H locs h hG => ?_)
  refine lv_iconst (v := (0 : Int32)) hx hb dX6_takeLoads_5 (by decide) ?_
  refine lv_istore_n (lv' := [(2, .int (0 : Int32)), (0, .ref (a 89)), (1, .ref (a o1))]) hx hb dX6_takeLoads_6 rfl hl (by decide) rfl (fun ls hl => ?_)
  exact wl_X6_takeLoads_7 ho1 hM hr hlk (fun t0 e => k0 t0 e) 5000 _ _ _ _ _ h hG (lv_sub hl [1, 2, 0] rfl)
set_option maxHeartbeats 4000000 in
set_option maxRecDepth 100000 in
theorem c_X6_takeLoads {l : Launch} {D : va_G} {cy : Nat → ClassId} {a z : Nat → Nat} (hI : xI xtb a) {o1 : Nat} (ho1 : xIs_X8 o1) {S : xSt} {S' : xSt} {v' : Unit} (hf : f_X6_takeLoads o1 S = some (S', v')) (sz : Nat) : Met l yX6_takeLoads (Cond.code yX6_takeLoads cX6_takeLoads 5 none :: xTB) ({ frames := 0, cells := 0, slots := 0, locals := 0 } : Room) (va_Pc [.ref (a 89), .ref (a o1)] (xPre D cy xtb a z S sz)) (xQv D cy xtb a S' v' sz) 0 0 (xA xtb a sz) := by
  refine Met.ofW (cc := cX6_takeLoads) (maxL := 5) (ret := none) (by decide) rfl ?_
  intro p e s m args below meth c s₁ B hml hv
  obtain ⟨rfl, hsz, hP, hK, hE⟩ := hv
  subst hsz
  have hl := lv_entry ([.ref (a 89), .ref (a o1)]) (n := 5) (Nat.le_of_ble_eq_true rfl)
  rw [lg_entry_eq]
  generalize (lg_sl ([.ref (a 89), .ref (a o1)]) ++ List.replicate (5 - (lg_sl ([.ref (a 89), .ref (a o1)])).length) Slot.unset).toArray = ls at hl ⊢
  have hl : lv_has ls 5 [(0, .ref (a 89)), (1, .ref (a o1))] := hl
  exact w_X6_takeLoads_0 ho1 ⟨B.exec, B.bytes, hml, findClass_of_methodNamed B.named, fun w hw => atoms_spec (ws := Cond.code yX6_takeLoads cX6_takeLoads 5 none :: xTB) B.pre w (List.mem_cons_of_mem _ hw), hK, hI, hE⟩ B.returns B.notSynchronized hf (fun t0 e => e.symm) ⟨hP, va_S.rf⟩ (lv_sub hl [0, 1] rfl)
set_option maxHeartbeats 4000000 in
set_option maxRecDepth 100000 in
theorem w_X6_isRepeated_59 {x1 : Int32} {x2 : Int32} (hM : xM p c cX6_isRepeated m s args RX6 3 D cy xtb a z) (hr : meth.sig.returnType = (some .boolean)) (hlk : meth.locks = false) {S' : xSt} {v' : Int32} {S : xSt} {q : ((xSt × Int32) ⊕ ((xSt × Int32) ⊕ (xSt × Int32)))} (h : f_X6_isRepeated_59 x1 x2 S = some q) (k0 : ∀ t0 : xSt × Int32, q = (.inr (.inr t0)) → t0 = (S', v')) (k1 : ∀ (S : xSt) (x1 : Int32), q = (.inr (.inl (S, x1))) → ∀ (H : Heap) (locs : List Loc) (ls : Array Slot), xG D cy xtb a S s H locs → lv_has ls 3 [(0, .ref (a 89)), (1, .int x1)] → W p l e ({ frames := 0, cells := 0, slots := 0, locals := 0 } : Room) s m args below meth c H locs 0 0 (MQ below (xQi D cy xtb a S' v' s.heap.size) args s 0 0 (xA xtb a s.heap.size)) (F0 m 2 ls [])) (k2 : ∀ (S : xSt) (x2 : Int32), q = (.inl (S, x2)) → ∀ (H : Heap) (locs : List Loc) (ls : Array Slot), xG D cy xtb a S s H locs → lv_has ls 3 [(0, .ref (a 89)), (1, .int x1), (2, .int x2)] → W p l e ({ frames := 0, cells := 0, slots := 0, locals := 0 } : Room) s m args below meth c H locs 0 0 (MQ below (xQi D cy xtb a S' v' s.heap.size) args s 0 0 (xA xtb a s.heap.size)) (F0 m 12 ls [])) {H : Heap} {locs : List Loc} (hG : xG D cy xtb a S s H locs) {ls : Array Slot} (hl : lv_has ls 3 [(0, .ref (a 89)), (1, .int x1), (2, .int x2)]) : W p l e ({ frames := 0, cells := 0, slots := 0, locals := 0 } : Room) s m args below meth c H locs 0 0 (MQ below (xQi D cy xtb a S' v' s.heap.size) args s 0 0 (xA xtb a s.heap.size)) (F0 m 59 ls []) := by
  have hx := hM.1
  have hb := hM.2.1
  refine x_iinc hM (fun v => [(2, .int v), (0, .ref (a 89)), (1, .int x1)]) h dX6_isRepeated_59 hl (k := 2) rfl (by decide) (by decide) (fun _ => rfl) (fun v_1 ls h hl => ?_)
  refine lv_goto (tgt := 12) hx hb dX6_isRepeated_62 (by decide) ?_
  exact k2 _ _ (Option.some.inj h).symm _ _ _ hG (lv_sub hl [1, 2, 0] rfl)
set_option maxHeartbeats 4000000 in
set_option maxRecDepth 100000 in
theorem w_X6_isRepeated_65 {x1 : Int32} (hM : xM p c cX6_isRepeated m s args RX6 3 D cy xtb a z) (hr : meth.sig.returnType = (some .boolean)) (hlk : meth.locks = false) {S' : xSt} {v' : Int32} {S : xSt} {q : ((xSt × Int32) ⊕ (xSt × Int32))} (h : f_X6_isRepeated_65 x1 S = some q) (k0 : ∀ t0 : xSt × Int32, q = (.inr t0) → t0 = (S', v')) (k1 : ∀ (S : xSt) (x1 : Int32), q = (.inl (S, x1)) → ∀ (H : Heap) (locs : List Loc) (ls : Array Slot), xG D cy xtb a S s H locs → lv_has ls 3 [(0, .ref (a 89)), (1, .int x1)] → W p l e ({ frames := 0, cells := 0, slots := 0, locals := 0 } : Room) s m args below meth c H locs 0 0 (MQ below (xQi D cy xtb a S' v' s.heap.size) args s 0 0 (xA xtb a s.heap.size)) (F0 m 2 ls [])) {H : Heap} {locs : List Loc} (hG : xG D cy xtb a S s H locs) {ls : Array Slot} (hl : lv_has ls 3 [(0, .ref (a 89)), (1, .int x1)]) : W p l e ({ frames := 0, cells := 0, slots := 0, locals := 0 } : Room) s m args below meth c H locs 0 0 (MQ below (xQi D cy xtb a S' v' s.heap.size) args s 0 0 (xA xtb a s.heap.size)) (F0 m 65 ls []) := by
  have hx := hM.1
  have hb := hM.2.1
  refine x_iinc hM (fun v => [(1, .int v), (0, .ref (a 89))]) h dX6_isRepeated_65 hl (k := 1) rfl (by decide) (by decide) (fun _ => rfl) (fun v_1 ls h hl => ?_)
  refine lv_goto (tgt := 2) hx hb dX6_isRepeated_68 (by decide) ?_
  exact k1 _ _ (Option.some.inj h).symm _ _ _ hG (lv_sub hl [1, 0] rfl)
set_option maxHeartbeats 4000000 in
set_option maxRecDepth 100000 in
theorem w_X6_isRepeated_12 {x1 : Int32} {x2 : Int32} (hM : xM p c cX6_isRepeated m s args RX6 3 D cy xtb a z) (hr : meth.sig.returnType = (some .boolean)) (hlk : meth.locks = false) {S' : xSt} {v' : Int32} {S : xSt} {q : ((xSt × Int32) ⊕ ((xSt × Int32) ⊕ (xSt × Int32)))} (h : f_X6_isRepeated_12 x1 S x2 = some q) (k0 : ∀ t0 : xSt × Int32, q = (.inr (.inr t0)) → t0 = (S', v')) (k1 : ∀ (S : xSt) (x1 : Int32), q = (.inr (.inl (S, x1))) → ∀ (H : Heap) (locs : List Loc) (ls : Array Slot), xG D cy xtb a S s H locs → lv_has ls 3 [(0, .ref (a 89)), (1, .int x1)] → W p l e ({ frames := 0, cells := 0, slots := 0, locals := 0 } : Room) s m args below meth c H locs 0 0 (MQ below (xQi D cy xtb a S' v' s.heap.size) args s 0 0 (xA xtb a s.heap.size)) (F0 m 2 ls [])) (k2 : ∀ (S : xSt) (x2 : Int32), q = (.inl (S, x2)) → ∀ (H : Heap) (locs : List Loc) (ls : Array Slot), xG D cy xtb a S s H locs → lv_has ls 3 [(0, .ref (a 89)), (1, .int x1), (2, .int x2)] → W p l e ({ frames := 0, cells := 0, slots := 0, locals := 0 } : Room) s m args below meth c H locs 0 0 (MQ below (xQi D cy xtb a S' v' s.heap.size) args s 0 0 (xA xtb a s.heap.size)) (F0 m 12 ls [])) {H : Heap} {locs : List Loc} (hG : xG D cy xtb a S s H locs) {ls : Array Slot} (hl : lv_has ls 3 [(0, .ref (a 89)), (1, .int x1), (2, .int x2)]) : W p l e ({ frames := 0, cells := 0, slots := 0, locals := 0 } : Room) s m args below meth c H locs 0 0 (MQ below (xQi D cy xtb a S' v' s.heap.size) args s 0 0 (xA xtb a s.heap.size)) (F0 m 12 ls []) := by
  have hx := hM.1
  have hb := hM.2.1
  refine lv_iload_n hx hb dX6_isRepeated_12 rfl (lv_at hl 2 rfl) ?_
  refine lv_iload_n hx hb dX6_isRepeated_13 rfl (lv_at hl 1 rfl) ?_
  refine x_icmp_ge (tgt := 65) hM h dX6_isRepeated_14 (by decide) (fun c_1 h => ?_) (fun c_1 h => ?_)
  · obtain ⟨q1, h, e1⟩ := xmr_at h
    exact w_X6_isRepeated_65 hM hr hlk h (fun t0 e => k0 t0 (by rw [e1, e])) (fun S x1 e => k1 S x1 (by rw [e1, e])) hG (lv_sub hl [0, 1] rfl)
  · refine lv_aload_n hx hb dX6_isRepeated_17 rfl (lv_at hl 0 rfl) ?_
    refine x_gr (r := 91) hM hG xfl_X6_15 xct_89 (by decide) rfl dX6_isRepeated_18 ?_
    refine lv_iload_n hx hb dX6_isRepeated_21 rfl (lv_at hl 2 rfl) ?_
    refine x_iald hM hG xct_91 h dX6_isRepeated_22 (fun v_2 h => ?_)
    refine lv_aload_n hx hb dX6_isRepeated_23 rfl (lv_at hl 0 rfl) ?_
    refine x_gr (r := 91) hM hG xfl_X6_15 xct_89 (by decide) rfl dX6_isRepeated_24 ?_
    refine lv_iload_n hx hb dX6_isRepeated_27 rfl (lv_at hl 1 rfl) ?_
    refine x_iald hM hG xct_91 h dX6_isRepeated_28 (fun v_3 h => ?_)
    refine x_icmp_le (tgt := 59) hM h dX6_isRepeated_29 (by decide) (fun c_4 h => ?_) (fun c_4 h => ?_)
    · exact w_X6_isRepeated_59 hM hr hlk h (fun t0 e => k0 t0 e) (fun S x1 e => k1 S x1 e) (fun S x2 e => k2 S x2 e) hG (lv_sub hl [0, 1, 2] rfl)
    · refine lv_aload_n hx hb dX6_isRepeated_32 rfl (lv_at hl 0 rfl) ?_
      refine x_gr (r := 90) hM hG xfl_X6_9 xct_89 (by decide) rfl dX6_isRepeated_33 ?_
      refine lv_aload_n hx hb dX6_isRepeated_36 rfl (lv_at hl 0 rfl) ?_
      refine x_gr (r := 91) hM hG xfl_X6_15 xct_89 (by decide) rfl dX6_isRepeated_37 ?_
      refine lv_iload_n hx hb dX6_isRepeated_40 rfl (lv_at hl 2 rfl) ?_
      refine x_iald hM hG xct_91 h dX6_isRepeated_41 (fun v_5 h => ?_)
      refine x_iald hM hG xct_90 h dX6_isRepeated_42 (fun v_6 h => ?_)
      refine lv_aload_n hx hb dX6_isRepeated_43 rfl (lv_at hl 0 rfl) ?_
      refine x_gr (r := 90) hM hG xfl_X6_9 xct_89 (by decide) rfl dX6_isRepeated_44 ?_
      refine lv_aload_n hx hb dX6_isRepeated_47 rfl (lv_at hl 0 rfl) ?_
      refine x_gr (r := 91) hM hG xfl_X6_15 xct_89 (by decide) rfl dX6_isRepeated_48 ?_
      refine lv_iload_n hx hb dX6_isRepeated_51 rfl (lv_at hl 1 rfl) ?_
      refine x_iald hM hG xct_91 h dX6_isRepeated_52 (fun v_7 h => ?_)
      refine x_iald hM hG xct_90 h dX6_isRepeated_53 (fun v_8 h => ?_)
      refine x_icmp_ne (tgt := 59) hM h dX6_isRepeated_54 (by decide) (fun c_9 h => ?_) (fun c_9 h => ?_)
      · exact w_X6_isRepeated_59 hM hr hlk h (fun t0 e => k0 t0 e) (fun S x1 e => k1 S x1 e) (fun S x2 e => k2 S x2 e) hG (lv_sub hl [0, 1, 2] rfl)
      · refine lv_iconst (v := (1 : Int32)) hx hb dX6_isRepeated_57 (by decide) ?_
        obtain ⟨hz, h⟩ := xgd_at h
        exact x_ri hM hG hr hlk (x_nz hz) (k0 _ (Option.some.inj h).symm) dX6_isRepeated_58
theorem wl_X6_isRepeated_12 {x1 : Int32} (hM : xM p c cX6_isRepeated m s args RX6 3 D cy xtb a z) (hr : meth.sig.returnType = (some .boolean)) (hlk : meth.locks = false) {S' : xSt} {v' : Int32} {q : ((xSt × Int32) ⊕ (xSt × Int32))} (k0 : ∀ t0 : xSt × Int32, q = (.inr t0) → t0 = (S', v')) (k1 : ∀ (S : xSt) (x1 : Int32), q = (.inl (S, x1)) → ∀ (H : Heap) (locs : List Loc) (ls : Array Slot), xG D cy xtb a S s H locs → lv_has ls 3 [(0, .ref (a 89)), (1, .int x1)] → W p l e ({ frames := 0, cells := 0, slots := 0, locals := 0 } : Room) s m args below meth c H locs 0 0 (MQ below (xQi D cy xtb a S' v' s.heap.size) args s 0 0 (xA xtb a s.heap.size)) (F0 m 2 ls [])) (n : Nat) : ∀ (S : xSt) (x2 : Int32) (H : Heap) (locs : List Loc) (ls : Array Slot), xlp (fun q : (xSt × Int32) => f_X6_isRepeated_12 x1 q.1 q.2) n (S, x2) = some q → xG D cy xtb a S s H locs → lv_has ls 3 [(0, .ref (a 89)), (1, .int x1), (2, .int x2)] → W p l e ({ frames := 0, cells := 0, slots := 0, locals := 0 } : Room) s m args below meth c H locs 0 0 (MQ below (xQi D cy xtb a S' v' s.heap.size) args s 0 0 (xA xtb a s.heap.size)) (F0 m 12 ls []) := by
  induction n with
  | zero => intro S x2 H locs ls h; exact (xlp_0 h).elim
  | succ n ih =>
    intro S x2 H locs ls h hG hl
    obtain ⟨q1, hq, hc, he⟩ := xlp_at h
    exact w_X6_isRepeated_12 hM hr hlk (q := q1) hq (fun t0 e => k0 t0 (he _ e).symm) (fun S x1 e => k1 S x1 (he _ e).symm) (fun S x2 e H locs ls hG hl => ih S x2 H locs ls (hc _ e) hG hl) hG hl
set_option maxHeartbeats 4000000 in
set_option maxRecDepth 100000 in
theorem w_X6_isRepeated_2 {x1 : Int32} (hM : xM p c cX6_isRepeated m s args RX6 3 D cy xtb a z) (hr : meth.sig.returnType = (some .boolean)) (hlk : meth.locks = false) {S' : xSt} {v' : Int32} {S : xSt} {q : ((xSt × Int32) ⊕ (xSt × Int32))} (h : f_X6_isRepeated_2 S x1 = some q) (k0 : ∀ t0 : xSt × Int32, q = (.inr t0) → t0 = (S', v')) (k1 : ∀ (S : xSt) (x1 : Int32), q = (.inl (S, x1)) → ∀ (H : Heap) (locs : List Loc) (ls : Array Slot), xG D cy xtb a S s H locs → lv_has ls 3 [(0, .ref (a 89)), (1, .int x1)] → W p l e ({ frames := 0, cells := 0, slots := 0, locals := 0 } : Room) s m args below meth c H locs 0 0 (MQ below (xQi D cy xtb a S' v' s.heap.size) args s 0 0 (xA xtb a s.heap.size)) (F0 m 2 ls [])) {H : Heap} {locs : List Loc} (hG : xG D cy xtb a S s H locs) {ls : Array Slot} (hl : lv_has ls 3 [(0, .ref (a 89)), (1, .int x1)]) : W p l e ({ frames := 0, cells := 0, slots := 0, locals := 0 } : Room) s m args below meth c H locs 0 0 (MQ below (xQi D cy xtb a S' v' s.heap.size) args s 0 0 (xA xtb a s.heap.size)) (F0 m 2 ls []) := by
  have hx := hM.1
  have hb := hM.2.1
  refine lv_iload_n hx hb dX6_isRepeated_2 rfl (lv_at hl 1 rfl) ?_
  refine lv_aload_n hx hb dX6_isRepeated_3 rfl (lv_at hl 0 rfl) ?_
  refine x_gi hM hG xfl_X6_32 xct_89 (by decide) rfl h dX6_isRepeated_4 (fun v_1 h => ?_)
  refine x_icmp_ge (tgt := 71) hM h dX6_isRepeated_7 (by decide) (fun c_2 h => ?_) (fun c_2 h => ?_)
  · refine lv_iconst (v := (0 : Int32)) hx hb dX6_isRepeated_71 (by decide) ?_
    obtain ⟨hz, h⟩ := xgd_at h
    exact x_ri hM hG hr hlk (x_nz hz) (k0 _ (Option.some.inj h).symm) dX6_isRepeated_72
  · refine lv_iconst (v := (0 : Int32)) hx hb dX6_isRepeated_10 (by decide) ?_
    refine lv_istore_n (lv' := [(2, .int (0 : Int32)), (0, .ref (a 89)), (1, .int x1)]) hx hb dX6_isRepeated_11 rfl hl (by decide) rfl (fun ls hl => ?_)
    exact wl_X6_isRepeated_12 hM hr hlk (fun t0 e => k0 t0 e) (fun S x1 e => k1 S x1 e) 5000 _ _ _ _ _ h hG (lv_sub hl [1, 2, 0] rfl)
theorem wl_X6_isRepeated_2 (hM : xM p c cX6_isRepeated m s args RX6 3 D cy xtb a z) (hr : meth.sig.returnType = (some .boolean)) (hlk : meth.locks = false) {S' : xSt} {v' : Int32} {q : (xSt × Int32)} (k0 : ∀ t0 : xSt × Int32, q = t0 → t0 = (S', v')) (n : Nat) : ∀ (S : xSt) (x1 : Int32) (H : Heap) (locs : List Loc) (ls : Array Slot), xlp (fun q : (xSt × Int32) => f_X6_isRepeated_2 q.1 q.2) n (S, x1) = some q → xG D cy xtb a S s H locs → lv_has ls 3 [(0, .ref (a 89)), (1, .int x1)] → W p l e ({ frames := 0, cells := 0, slots := 0, locals := 0 } : Room) s m args below meth c H locs 0 0 (MQ below (xQi D cy xtb a S' v' s.heap.size) args s 0 0 (xA xtb a s.heap.size)) (F0 m 2 ls []) := by
  induction n with
  | zero => intro S x1 H locs ls h; exact (xlp_0 h).elim
  | succ n ih =>
    intro S x1 H locs ls h hG hl
    obtain ⟨q1, hq, hc, he⟩ := xlp_at h
    exact w_X6_isRepeated_2 hM hr hlk (q := q1) hq (fun t0 e => k0 t0 (he _ e).symm) (fun S x1 e H locs ls hG hl => ih S x1 H locs ls (hc _ e) hG hl) hG hl
set_option maxHeartbeats 4000000 in
set_option maxRecDepth 100000 in
theorem w_X6_isRepeated_0 (hM : xM p c cX6_isRepeated m s args RX6 3 D cy xtb a z) (hr : meth.sig.returnType = (some .boolean)) (hlk : meth.locks = false) {S' : xSt} {v' : Int32} {S : xSt} {q : (xSt × Int32)} (h : f_X6_isRepeated_0 S = some q) (k0 : ∀ t0 : xSt × Int32, q = t0 → t0 = (S', v')) {H : Heap} {locs : List Loc} (hG : xG D cy xtb a S s H locs) {ls : Array Slot} (hl : lv_has ls 3 [(0, .ref (a 89))]) : W p l e ({ frames := 0, cells := 0, slots := 0, locals := 0 } : Room) s m args below meth c H locs 0 0 (MQ below (xQi D cy xtb a S' v' s.heap.size) args s 0 0 (xA xtb a s.heap.size)) (F0 m 0 ls []) := by
  have hx := hM.1
  have hb := hM.2.1
  refine lv_iconst (v := (1 : Int32)) hx hb dX6_isRepeated_0 (by decide) ?_
  refine lv_istore_n (lv' := [(1, .int (1 : Int32)), (0, .ref (a 89))]) hx hb dX6_isRepeated_1 rfl hl (by decide) rfl (fun ls hl => ?_)
  exact wl_X6_isRepeated_2 hM hr hlk (fun t0 e => k0 t0 e) 5000 _ _ _ _ _ h hG (lv_sub hl [1, 0] rfl)
set_option maxHeartbeats 4000000 in
set_option maxRecDepth 100000 in
theorem c_X6_isRepeated {l : Launch} {D : va_G} {cy : Nat → ClassId} {a z : Nat → Nat} (hI : xI xtb a) {S : xSt} {S' : xSt} {v' : Int32} (hf : f_X6_isRepeated S = some (S', v')) (sz : Nat) : Met l yX6_isRepeated (Cond.code yX6_isRepeated cX6_isRepeated 3 (some .boolean) :: xTB) ({ frames := 0, cells := 0, slots := 0, locals := 0 } : Room) (va_Pc [.ref (a 89)] (xPre D cy xtb a z S sz)) (xQi D cy xtb a S' v' sz) 0 0 (xA xtb a sz) := by
  refine Met.ofW (cc := cX6_isRepeated) (maxL := 3) (ret := (some .boolean)) (by decide) rfl ?_
  intro p e s m args below meth c s₁ B hml hv
  obtain ⟨rfl, hsz, hP, hK, hE⟩ := hv
  subst hsz
  have hl := lv_entry ([.ref (a 89)]) (n := 3) (Nat.le_of_ble_eq_true rfl)
  rw [lg_entry_eq]
  generalize (lg_sl ([.ref (a 89)]) ++ List.replicate (3 - (lg_sl ([.ref (a 89)])).length) Slot.unset).toArray = ls at hl ⊢
  have hl : lv_has ls 3 [(0, .ref (a 89))] := hl
  exact w_X6_isRepeated_0 ⟨B.exec, B.bytes, hml, findClass_of_methodNamed B.named, fun w hw => atoms_spec (ws := Cond.code yX6_isRepeated cX6_isRepeated 3 (some .boolean) :: xTB) B.pre w (List.mem_cons_of_mem _ hw), hK, hI, hE⟩ B.returns B.notSynchronized hf (fun t0 e => e.symm) ⟨hP, va_S.rf⟩ (lv_sub hl [0] rfl)
set_option maxHeartbeats 4000000 in
set_option maxRecDepth 100000 in
theorem w_X6_weigh_78 {x2 : Int32} (hM : xM p c cX6_weigh m s args RX6 3 D cy xtb a z) (hr : meth.sig.returnType = none) (hlk : meth.locks = false) {S' : xSt} {v' : Unit} {S : xSt} {q : (xSt × Unit)} (h : f_X6_weigh_78 x2 S = some q) (k0 : ∀ t0 : xSt × Unit, q = t0 → t0 = (S', v')) {H : Heap} {locs : List Loc} (hG : xG D cy xtb a S s H locs) {ls : Array Slot} (hl : lv_has ls 3 [(0, .ref (a 89)), (2, .int x2)]) : W p l e ({ frames := 5, cells := 0, slots := 0, locals := 124 } : Room) s m args below meth c H locs 0 0 (MQ below (xQv D cy xtb a S' v' s.heap.size) args s 0 0 (xA xtb a s.heap.size)) (F0 m 78 ls []) := by
  have hx := hM.1
  have hb := hM.2.1
  refine lv_aload_n hx hb dX6_weigh_78 rfl (lv_at hl 0 rfl) ?_
  refine lv_iload_n hx hb dX6_weigh_79 rfl (lv_at hl 1 rfl) ?_
  refine x_pi hM hG xfl_X6_28 xfp_X6_6 xct_89 (by decide) rfl rfl rfl h dX6_weigh_80 (fun S_1 H locs h hG => ?_)
  refine lv_aload_n hx hb dX6_weigh_83 rfl (lv_at hl 0 rfl) ?_
  refine x_gr (r := 91) hM hG xfl_X6_15 xct_89 (by decide) rfl dX6_weigh_84 ?_
  refine lv_iconst (v := (0 : Int32)) hx hb dX6_weigh_87 (by decide) ?_
  refine lv_aload_n hx hb dX6_weigh_88 rfl (lv_at hl 0 rfl) ?_
  refine x_gr (r := 92) hM hG xfl_X6_18 xct_89 (by decide) rfl dX6_weigh_89 ?_
  refine lv_iconst (v := (0 : Int32)) hx hb dX6_weigh_92 (by decide) ?_
  refine lv_bipush (v := (6 : Int32)) hx hb dX6_weigh_93 (by decide) ?_
  refine x_cpi hM hG hl.1 xcp_X6_77 xct_91 xct_92 h (Nat.le_of_ble_eq_true rfl) (Nat.le_of_ble_eq_true rfl) dX6_weigh_95 (fun S_2 H locs h hG => ?_)
  exact x_rv hM hG hr hlk (k0 _ (Option.some.inj h).symm) dX6_weigh_98
set_option maxHeartbeats 4000000 in
set_option maxRecDepth 100000 in
theorem w_X6_weigh_48 {x1 : Int32} (hM : xM p c cX6_weigh m s args RX6 3 D cy xtb a z) (hr : meth.sig.returnType = none) (hlk : meth.locks = false) {S' : xSt} {v' : Unit} {S : xSt} {q : (xSt × Unit)} (h : f_X6_weigh_48 x1 S = some q) (k0 : ∀ t0 : xSt × Unit, q = t0 → t0 = (S', v')) {H : Heap} {locs : List Loc} (hG : xG D cy xtb a S s H locs) {ls : Array Slot} (hl : lv_has ls 3 [(0, .ref (a 89)), (1, .int x1)]) : W p l e ({ frames := 5, cells := 0, slots := 0, locals := 124 } : Room) s m args below meth c H locs 0 0 (MQ below (xQv D cy xtb a S' v' s.heap.size) args s 0 0 (xA xtb a s.heap.size)) (F0 m 48 ls []) := by
  have hx := hM.1
  have hb := hM.2.1
  refine lv_aload_n hx hb dX6_weigh_48 rfl (lv_at hl 0 rfl) ?_
  refine x_gr (r := 36) hM hG xfl_X6_25 xct_89 (by decide) rfl dX6_weigh_49 ?_
  refine lv_iload_n hx hb dX6_weigh_52 rfl (lv_at hl 1 rfl) ?_
  refine x_cVi (As := [.int x1]) (rest := []) hM hG xml_X6_73 xwi_X4_hottestBehind xws_X4_hottestBehind xih_mind.1 (by decide) rfl h (fun S' v e => c_X4_hottestBehind hM.2.2.2.2.2.2.1 xih_mind e _) ⟨Nat.le_of_ble_eq_true rfl, Nat.le_of_ble_eq_true rfl⟩ rfl hl.1 rfl (Nat.le_of_ble_eq_true rfl) dX6_weigh_53 (fun S_1 v_2 H locs h hG => ?_)
  refine lv_istore_n (lv' := [(2, .int v_2), (0, .ref (a 89)), (1, .int x1)]) hx hb dX6_weigh_56 rfl hl (by decide) rfl (fun ls hl => ?_)
  refine lv_iload_n hx hb dX6_weigh_57 rfl (lv_at hl 0 rfl) ?_
  refine x_if_lt (tgt := 98) hM h dX6_weigh_58 (by decide) (fun c_3 h => ?_) (fun c_3 h => ?_)
  · exact x_rv hM hG hr hlk (k0 _ (Option.some.inj h).symm) dX6_weigh_98
  · refine lv_aload_n hx hb dX6_weigh_61 rfl (lv_at hl 1 rfl) ?_
    refine x_gi hM hG xfl_X6_28 xct_89 (by decide) rfl h dX6_weigh_62 (fun v_4 h => ?_)
    refine lv_bipush (v := (-2 : Int32)) hx hb dX6_weigh_65 (by decide) ?_
    refine x_icmp_eq (tgt := 78) hM h dX6_weigh_67 (by decide) (fun c_5 h => ?_) (fun c_5 h => ?_)
    · exact w_X6_weigh_78 hM hr hlk h (fun t0 e => k0 t0 e) hG (lv_sub hl [1, 0] rfl)
    · refine lv_iload_n hx hb dX6_weigh_70 rfl (lv_at hl 0 rfl) ?_
      refine lv_aload_n hx hb dX6_weigh_71 rfl (lv_at hl 1 rfl) ?_
      refine x_gi hM hG xfl_X6_28 xct_89 (by decide) rfl h dX6_weigh_72 (fun v_6 h => ?_)
      refine x_icmp_ge (tgt := 98) hM h dX6_weigh_75 (by decide) (fun c_7 h => ?_) (fun c_7 h => ?_)
      · exact x_rv hM hG hr hlk (k0 _ (Option.some.inj h).symm) dX6_weigh_98
      · exact w_X6_weigh_78 hM hr hlk h (fun t0 e => k0 t0 e) hG (lv_sub hl [1, 0] rfl)
set_option maxHeartbeats 4000000 in
set_option maxRecDepth 100000 in
theorem w_X6_weigh_13 {x1 : Int32} {x2 : Int32} (hM : xM p c cX6_weigh m s args RX6 3 D cy xtb a z) (hr : meth.sig.returnType = none) (hlk : meth.locks = false) {S' : xSt} {v' : Unit} {S : xSt} {q : ((xSt × Int32) ⊕ (xSt × Unit))} (h : f_X6_weigh_13 x1 S x2 = some q) (k0 : ∀ t0 : xSt × Unit, q = (.inr t0) → t0 = (S', v')) (k1 : ∀ (S : xSt) (x2 : Int32), q = (.inl (S, x2)) → ∀ (H : Heap) (locs : List Loc) (ls : Array Slot), xG D cy xtb a S s H locs → lv_has ls 3 [(0, .ref (a 89)), (1, .int x1), (2, .int x2)] → W p l e ({ frames := 5, cells := 0, slots := 0, locals := 124 } : Room) s m args below meth c H locs 0 0 (MQ below (xQv D cy xtb a S' v' s.heap.size) args s 0 0 (xA xtb a s.heap.size)) (F0 m 13 ls [])) {H : Heap} {locs : List Loc} (hG : xG D cy xtb a S s H locs) {ls : Array Slot} (hl : lv_has ls 3 [(0, .ref (a 89)), (1, .int x1), (2, .int x2)]) : W p l e ({ frames := 5, cells := 0, slots := 0, locals := 124 } : Room) s m args below meth c H locs 0 0 (MQ below (xQv D cy xtb a S' v' s.heap.size) args s 0 0 (xA xtb a s.heap.size)) (F0 m 13 ls []) := by
  have hx := hM.1
  have hb := hM.2.1
  refine lv_iload_n hx hb dX6_weigh_13 rfl (lv_at hl 2 rfl) ?_
  refine lv_aload_n hx hb dX6_weigh_14 rfl (lv_at hl 0 rfl) ?_
  refine x_gi hM hG xfl_X6_32 xct_89 (by decide) rfl h dX6_weigh_15 (fun v_1 h => ?_)
  refine x_icmp_ge (tgt := 48) hM h dX6_weigh_18 (by decide) (fun c_2 h => ?_) (fun c_2 h => ?_)
  · obtain ⟨q1, h, e1⟩ := xmr_at h
    exact w_X6_weigh_48 hM hr hlk h (fun t0 e => k0 t0 (by rw [e1, e])) hG (lv_sub hl [0, 1] rfl)
  · refine lv_aload_n hx hb dX6_weigh_21 rfl (lv_at hl 0 rfl) ?_
    refine x_gr (r := 36) hM hG xfl_X6_25 xct_89 (by decide) rfl dX6_weigh_22 ?_
    refine lv_iload_n hx hb dX6_weigh_25 rfl (lv_at hl 2 rfl) ?_
    refine lv_aload_n hx hb dX6_weigh_26 rfl (lv_at hl 0 rfl) ?_
    refine x_gr (r := 90) hM hG xfl_X6_9 xct_89 (by decide) rfl dX6_weigh_27 ?_
    refine lv_aload_n hx hb dX6_weigh_30 rfl (lv_at hl 0 rfl) ?_
    refine x_gr (r := 91) hM hG xfl_X6_15 xct_89 (by decide) rfl dX6_weigh_31 ?_
    refine lv_iload_n hx hb dX6_weigh_34 rfl (lv_at hl 2 rfl) ?_
    refine x_iald hM hG xct_91 h dX6_weigh_35 (fun v_3 h => ?_)
    refine x_iald hM hG xct_90 h dX6_weigh_36 (fun v_4 h => ?_)
    refine lv_iconst (v := (0 : Int32)) hx hb dX6_weigh_37 (by decide) ?_
    refine x_cVi (As := [.int x2, .int v_4, .int (0 : Int32)]) (rest := []) hM hG xml_X6_69 xwi_X4_pileOn xws_X4_pileOn xih_mind.1 (by decide) rfl h (fun S' v e => c_X4_pileOn hM.2.2.2.2.2.2.1 xih_mind e _) ⟨Nat.le_of_ble_eq_true rfl, Nat.le_of_ble_eq_true rfl⟩ rfl hl.1 rfl (Nat.le_of_ble_eq_true rfl) dX6_weigh_38 (fun S_5 v_6 H locs h hG => ?_)
    refine lv_pop hx hb dX6_weigh_41 rfl ?_
    refine x_iinc hM (fun v => [(2, .int v), (0, .ref (a 89)), (1, .int x1)]) h dX6_weigh_42 hl (k := 2) rfl (by decide) (by decide) (fun _ => rfl) (fun v_7 ls h hl => ?_)
    refine lv_goto (tgt := 13) hx hb dX6_weigh_45 (by decide) ?_
    exact k1 _ _ (Option.some.inj h).symm _ _ _ hG (lv_sub hl [1, 2, 0] rfl)
theorem wl_X6_weigh_13 {x1 : Int32} (hM : xM p c cX6_weigh m s args RX6 3 D cy xtb a z) (hr : meth.sig.returnType = none) (hlk : meth.locks = false) {S' : xSt} {v' : Unit} {q : (xSt × Unit)} (k0 : ∀ t0 : xSt × Unit, q = t0 → t0 = (S', v')) (n : Nat) : ∀ (S : xSt) (x2 : Int32) (H : Heap) (locs : List Loc) (ls : Array Slot), xlp (fun q : (xSt × Int32) => f_X6_weigh_13 x1 q.1 q.2) n (S, x2) = some q → xG D cy xtb a S s H locs → lv_has ls 3 [(0, .ref (a 89)), (1, .int x1), (2, .int x2)] → W p l e ({ frames := 5, cells := 0, slots := 0, locals := 124 } : Room) s m args below meth c H locs 0 0 (MQ below (xQv D cy xtb a S' v' s.heap.size) args s 0 0 (xA xtb a s.heap.size)) (F0 m 13 ls []) := by
  induction n with
  | zero => intro S x2 H locs ls h; exact (xlp_0 h).elim
  | succ n ih =>
    intro S x2 H locs ls h hG hl
    obtain ⟨q1, hq, hc, he⟩ := xlp_at h
    exact w_X6_weigh_13 hM hr hlk (q := q1) hq (fun t0 e => k0 t0 (he _ e).symm) (fun S x2 e H locs ls hG hl => ih S x2 H locs ls (hc _ e) hG hl) hG hl
set_option maxHeartbeats 4000000 in
set_option maxRecDepth 100000 in
theorem w_X6_weigh_0 {x1 : Int32} (hM : xM p c cX6_weigh m s args RX6 3 D cy xtb a z) (hr : meth.sig.returnType = none) (hlk : meth.locks = false) {S' : xSt} {v' : Unit} {S : xSt} {q : (xSt × Unit)} (h : f_X6_weigh_0 x1 S = some q) (k0 : ∀ t0 : xSt × Unit, q = t0 → t0 = (S', v')) {H : Heap} {locs : List Loc} (hG : xG D cy xtb a S s H locs) {ls : Array Slot} (hl : lv_has ls 3 [(0, .ref (a 89)), (1, .int x1)]) : W p l e ({ frames := 5, cells := 0, slots := 0, locals := 124 } : Room) s m args below meth c H locs 0 0 (MQ below (xQv D cy xtb a S' v' s.heap.size) args s 0 0 (xA xtb a s.heap.size)) (F0 m 0 ls []) := by
  have hx := hM.1
  have hb := hM.2.1
  refine lv_aload_n hx hb dX6_weigh_0 rfl (lv_at hl 0 rfl) ?_
  refine x_gr (r := 36) hM hG xfl_X6_25 xct_89 (by decide) rfl dX6_weigh_1 ?_
  refine lv_aload_n hx hb dX6_weigh_4 rfl (lv_at hl 0 rfl) ?_
  refine x_gr (r := 16) hM hG xfl_X6_21 xct_89 (by decide) rfl dX6_weigh_5 ?_
  refine x_cVv (As := [.ref (a 16)]) (rest := []) hM hG xml_X6_65 xwi_X4_takeAll xws_X4_takeAll xih_mind.1 (by decide) rfl h (fun S' v e => c_X4_takeAll hM.2.2.2.2.2.2.1 xih_mind xih_hay e _) ⟨Nat.le_of_ble_eq_true rfl, Nat.le_of_ble_eq_true rfl⟩ rfl hl.1 rfl (Nat.le_of_ble_eq_true rfl) dX6_weigh_8 (fun S_1 v_2 H locs h hG => ?_)
  refine lv_iconst (v := (0 : Int32)) hx hb dX6_weigh_11 (by decide) ?_
  refine lv_istore_n (lv' := [(2, .int (0 : Int32)), (0, .ref (a 89)), (1, .int x1)]) hx hb dX6_weigh_12 rfl hl (by decide) rfl (fun ls hl => ?_)
  exact wl_X6_weigh_13 hM hr hlk (fun t0 e => k0 t0 e) 5000 _ _ _ _ _ h hG (lv_sub hl [1, 2, 0] rfl)
set_option maxHeartbeats 4000000 in
set_option maxRecDepth 100000 in
theorem c_X6_weigh {l : Launch} {D : va_G} {cy : Nat → ClassId} {a z : Nat → Nat} (hI : xI xtb a) {S : xSt} {x1 : Int32} {S' : xSt} {v' : Unit} (hf : f_X6_weigh S x1 = some (S', v')) (sz : Nat) : Met l yX6_weigh (Cond.code yX6_weigh cX6_weigh 3 none :: xTB) ({ frames := 5, cells := 0, slots := 0, locals := 124 } : Room) (va_Pc [.ref (a 89), .int x1] (xPre D cy xtb a z S sz)) (xQv D cy xtb a S' v' sz) 0 0 (xA xtb a sz) := by
  refine Met.ofW (cc := cX6_weigh) (maxL := 3) (ret := none) (by decide) rfl ?_
  intro p e s m args below meth c s₁ B hml hv
  obtain ⟨rfl, hsz, hP, hK, hE⟩ := hv
  subst hsz
  have hl := lv_entry ([.ref (a 89), .int x1]) (n := 3) (Nat.le_of_ble_eq_true rfl)
  rw [lg_entry_eq]
  generalize (lg_sl ([.ref (a 89), .int x1]) ++ List.replicate (3 - (lg_sl ([.ref (a 89), .int x1])).length) Slot.unset).toArray = ls at hl ⊢
  have hl : lv_has ls 3 [(0, .ref (a 89)), (1, .int x1)] := hl
  exact w_X6_weigh_0 ⟨B.exec, B.bytes, hml, findClass_of_methodNamed B.named, fun w hw => atoms_spec (ws := Cond.code yX6_weigh cX6_weigh 3 none :: xTB) B.pre w (List.mem_cons_of_mem _ hw), hK, hI, hE⟩ B.returns B.notSynchronized hf (fun t0 e => e.symm) ⟨hP, va_S.rf⟩ (lv_sub hl [0, 1] rfl)
set_option maxHeartbeats 4000000 in
set_option maxRecDepth 100000 in
theorem w_X6_swap_0 {x1 : Int32} {x2 : Int32} (hM : xM p c cX6_swap m s args RX6 4 D cy xtb a z) (hr : meth.sig.returnType = none) (hlk : meth.locks = false) {S' : xSt} {v' : Unit} {S : xSt} {q : (xSt × Unit)} (h : f_X6_swap_0 x1 x2 S = some q) (k0 : ∀ t0 : xSt × Unit, q = t0 → t0 = (S', v')) {H : Heap} {locs : List Loc} (hG : xG D cy xtb a S s H locs) {ls : Array Slot} (hl : lv_has ls 4 [(0, .ref (a 89)), (1, .int x1), (2, .int x2)]) : W p l e ({ frames := 0, cells := 0, slots := 0, locals := 0 } : Room) s m args below meth c H locs 0 0 (MQ below (xQv D cy xtb a S' v' s.heap.size) args s 0 0 (xA xtb a s.heap.size)) (F0 m 0 ls []) := by
  have hx := hM.1
  have hb := hM.2.1
  refine lv_aload_n hx hb dX6_swap_0 rfl (lv_at hl 0 rfl) ?_
  refine x_gr (r := 91) hM hG xfl_X6_15 xct_89 (by decide) rfl dX6_swap_1 ?_
  refine lv_iload_n hx hb dX6_swap_4 rfl (lv_at hl 1 rfl) ?_
  refine x_iald hM hG xct_91 h dX6_swap_5 (fun v_1 h => ?_)
  refine lv_istore_n (lv' := [(3, .int v_1), (0, .ref (a 89)), (1, .int x1), (2, .int x2)]) hx hb dX6_swap_6 rfl hl (by decide) rfl (fun ls hl => ?_)
  refine lv_aload_n hx hb dX6_swap_7 rfl (lv_at hl 1 rfl) ?_
  refine x_gr (r := 91) hM hG xfl_X6_15 xct_89 (by decide) rfl dX6_swap_8 ?_
  refine lv_iload_n hx hb dX6_swap_11 rfl (lv_at hl 2 rfl) ?_
  refine lv_aload_n hx hb dX6_swap_12 rfl (lv_at hl 1 rfl) ?_
  refine x_gr (r := 91) hM hG xfl_X6_15 xct_89 (by decide) rfl dX6_swap_13 ?_
  refine lv_iload_n hx hb dX6_swap_16 rfl (lv_at hl 3 rfl) ?_
  refine x_iald hM hG xct_91 h dX6_swap_17 (fun v_2 h => ?_)
  refine x_iast hM hG xct_91 h dX6_swap_18 (fun S_3 H locs h hG => ?_)
  refine lv_aload_n hx hb dX6_swap_19 rfl (lv_at hl 1 rfl) ?_
  refine x_gr (r := 91) hM hG xfl_X6_15 xct_89 (by decide) rfl dX6_swap_20 ?_
  refine lv_iload_n hx hb dX6_swap_23 rfl (lv_at hl 3 rfl) ?_
  refine lv_iload_n hx hb dX6_swap_24 rfl (lv_at hl 0 rfl) ?_
  refine x_iast hM hG xct_91 h dX6_swap_25 (fun S_4 H locs h hG => ?_)
  exact x_rv hM hG hr hlk (k0 _ (Option.some.inj h).symm) dX6_swap_26
set_option maxHeartbeats 4000000 in
set_option maxRecDepth 100000 in
theorem c_X6_swap {l : Launch} {D : va_G} {cy : Nat → ClassId} {a z : Nat → Nat} (hI : xI xtb a) {S : xSt} {x1 : Int32} {x2 : Int32} {S' : xSt} {v' : Unit} (hf : f_X6_swap S x1 x2 = some (S', v')) (sz : Nat) : Met l yX6_swap (Cond.code yX6_swap cX6_swap 4 none :: xTB) ({ frames := 0, cells := 0, slots := 0, locals := 0 } : Room) (va_Pc [.ref (a 89), .int x1, .int x2] (xPre D cy xtb a z S sz)) (xQv D cy xtb a S' v' sz) 0 0 (xA xtb a sz) := by
  refine Met.ofW (cc := cX6_swap) (maxL := 4) (ret := none) (by decide) rfl ?_
  intro p e s m args below meth c s₁ B hml hv
  obtain ⟨rfl, hsz, hP, hK, hE⟩ := hv
  subst hsz
  have hl := lv_entry ([.ref (a 89), .int x1, .int x2]) (n := 4) (Nat.le_of_ble_eq_true rfl)
  rw [lg_entry_eq]
  generalize (lg_sl ([.ref (a 89), .int x1, .int x2]) ++ List.replicate (4 - (lg_sl ([.ref (a 89), .int x1, .int x2])).length) Slot.unset).toArray = ls at hl ⊢
  have hl : lv_has ls 4 [(0, .ref (a 89)), (1, .int x1), (2, .int x2)] := hl
  exact w_X6_swap_0 ⟨B.exec, B.bytes, hml, findClass_of_methodNamed B.named, fun w hw => atoms_spec (ws := Cond.code yX6_swap cX6_swap 4 none :: xTB) B.pre w (List.mem_cons_of_mem _ hw), hK, hI, hE⟩ B.returns B.notSynchronized hf (fun t0 e => e.symm) ⟨hP, va_S.rf⟩ (lv_sub hl [0, 1, 2] rfl)
set_option maxHeartbeats 4000000 in
set_option maxRecDepth 100000 in
theorem w_X6_goToNextOrder_91 {x3 : Int32} {x4 : Int32} (hM : xM p c cX6_goToNextOrder m s args RX6 5 D cy xtb a z) (hr : meth.sig.returnType = (some .boolean)) (hlk : meth.locks = false) {S' : xSt} {v' : Int32} {S : xSt} {q : ((xSt × Int32 × Int32) ⊕ (xSt × Int32))} (h : f_X6_goToNextOrder_91 S x3 x4 = some q) (k0 : ∀ t0 : xSt × Int32, q = (.inr t0) → t0 = (S', v')) (k1 : ∀ (S : xSt) (x3 : Int32) (x4 : Int32), q = (.inl (S, x3, x4)) → ∀ (H : Heap) (locs : List Loc) (ls : Array Slot), xG D cy xtb a S s H locs → lv_has ls 5 [(0, .ref (a 89)), (3, .int x3), (4, .int x4)] → W p l e ({ frames := 1, cells := 0, slots := 0, locals := 23 } : Room) s m args below meth c H locs 0 0 (MQ below (xQi D cy xtb a S' v' s.heap.size) args s 0 0 (xA xtb a s.heap.size)) (F0 m 91 ls [])) {H : Heap} {locs : List Loc} (hG : xG D cy xtb a S s H locs) {ls : Array Slot} (hl : lv_has ls 5 [(0, .ref (a 89)), (3, .int x3), (4, .int x4)]) : W p l e ({ frames := 1, cells := 0, slots := 0, locals := 23 } : Room) s m args below meth c H locs 0 0 (MQ below (xQi D cy xtb a S' v' s.heap.size) args s 0 0 (xA xtb a s.heap.size)) (F0 m 91 ls []) := by
  have hx := hM.1
  have hb := hM.2.1
  refine lv_iload_n hx hb dX6_goToNextOrder_91 rfl (lv_at hl 1 rfl) ?_
  refine lv_iload hx hb dX6_goToNextOrder_92 (lv_at hl 2 rfl) ?_
  refine x_icmp_ge (tgt := 113) hM h dX6_goToNextOrder_94 (by decide) (fun c_1 h => ?_) (fun c_1 h => ?_)
  · refine lv_iconst (v := (1 : Int32)) hx hb dX6_goToNextOrder_113 (by decide) ?_
    obtain ⟨hz, h⟩ := xgd_at h
    exact x_ri hM hG hr hlk (x_nz hz) (k0 _ (Option.some.inj h).symm) dX6_goToNextOrder_114
  · refine lv_aload_n hx hb dX6_goToNextOrder_97 rfl (lv_at hl 0 rfl) ?_
    refine lv_iload_n hx hb dX6_goToNextOrder_98 rfl (lv_at hl 1 rfl) ?_
    refine lv_iload hx hb dX6_goToNextOrder_99 (lv_at hl 2 rfl) ?_
    refine x_cVv (As := [.int x3, .int x4]) (rest := []) hM hG xml_X6_83 xwi_X6_swap xws_X6_swap xct_89 (by decide) rfl h (fun S' v e => c_X6_swap hM.2.2.2.2.2.2.1 e _) ⟨Nat.le_of_ble_eq_true rfl, Nat.le_of_ble_eq_true rfl⟩ rfl hl.1 rfl (Nat.le_of_ble_eq_true rfl) dX6_goToNextOrder_101 (fun S_2 v_3 H locs h hG => ?_)
    refine x_iinc hM (fun v => [(3, .int v), (0, .ref (a 89)), (4, .int x4)]) h dX6_goToNextOrder_104 hl (k := 1) rfl (by decide) (by decide) (fun _ => rfl) (fun v_4 ls h hl => ?_)
    refine x_iinc hM (fun v => [(4, .int v), (3, .int v_4), (0, .ref (a 89))]) h dX6_goToNextOrder_107 hl (k := 2) rfl (by decide) (by decide) (fun _ => rfl) (fun v_5 ls h hl => ?_)
    refine lv_goto (tgt := 91) hx hb dX6_goToNextOrder_110 (by decide) ?_
    exact k1 _ _ _ (Option.some.inj h).symm _ _ _ hG (lv_sub hl [2, 1, 0] rfl)
theorem wl_X6_goToNextOrder_91 (hM : xM p c cX6_goToNextOrder m s args RX6 5 D cy xtb a z) (hr : meth.sig.returnType = (some .boolean)) (hlk : meth.locks = false) {S' : xSt} {v' : Int32} {q : (xSt × Int32)} (k0 : ∀ t0 : xSt × Int32, q = t0 → t0 = (S', v')) (n : Nat) : ∀ (S : xSt) (x3 : Int32) (x4 : Int32) (H : Heap) (locs : List Loc) (ls : Array Slot), xlp (fun q : (xSt × Int32 × Int32) => f_X6_goToNextOrder_91 q.1 q.2.1 q.2.2) n (S, x3, x4) = some q → xG D cy xtb a S s H locs → lv_has ls 5 [(0, .ref (a 89)), (3, .int x3), (4, .int x4)] → W p l e ({ frames := 1, cells := 0, slots := 0, locals := 23 } : Room) s m args below meth c H locs 0 0 (MQ below (xQi D cy xtb a S' v' s.heap.size) args s 0 0 (xA xtb a s.heap.size)) (F0 m 91 ls []) := by
  induction n with
  | zero => intro S x3 x4 H locs ls h; exact (xlp_0 h).elim
  | succ n ih =>
    intro S x3 x4 H locs ls h hG hl
    obtain ⟨q1, hq, hc, he⟩ := xlp_at h
    exact w_X6_goToNextOrder_91 hM hr hlk (q := q1) hq (fun t0 e => k0 t0 (he _ e).symm) (fun S x3 x4 e H locs ls hG hl => ih S x3 x4 H locs ls (hc _ e) hG hl) hG hl
set_option maxHeartbeats 4000000 in
set_option maxRecDepth 100000 in
theorem w_X6_goToNextOrder_73 {x1 : Int32} {x2 : Int32} (hM : xM p c cX6_goToNextOrder m s args RX6 5 D cy xtb a z) (hr : meth.sig.returnType = (some .boolean)) (hlk : meth.locks = false) {S' : xSt} {v' : Int32} {S : xSt} {q : (xSt × Int32)} (h : f_X6_goToNextOrder_73 x1 x2 S = some q) (k0 : ∀ t0 : xSt × Int32, q = t0 → t0 = (S', v')) {H : Heap} {locs : List Loc} (hG : xG D cy xtb a S s H locs) {ls : Array Slot} (hl : lv_has ls 5 [(0, .ref (a 89)), (1, .int x1), (2, .int x2)]) : W p l e ({ frames := 1, cells := 0, slots := 0, locals := 23 } : Room) s m args below meth c H locs 0 0 (MQ below (xQi D cy xtb a S' v' s.heap.size) args s 0 0 (xA xtb a s.heap.size)) (F0 m 73 ls []) := by
  have hx := hM.1
  have hb := hM.2.1
  refine lv_aload_n hx hb dX6_goToNextOrder_73 rfl (lv_at hl 0 rfl) ?_
  refine lv_iload_n hx hb dX6_goToNextOrder_74 rfl (lv_at hl 1 rfl) ?_
  refine lv_iload_n hx hb dX6_goToNextOrder_75 rfl (lv_at hl 2 rfl) ?_
  refine x_cVv (As := [.int x1, .int x2]) (rest := []) hM hG xml_X6_83 xwi_X6_swap xws_X6_swap xct_89 (by decide) rfl h (fun S' v e => c_X6_swap hM.2.2.2.2.2.2.1 e _) ⟨Nat.le_of_ble_eq_true rfl, Nat.le_of_ble_eq_true rfl⟩ rfl hl.1 rfl (Nat.le_of_ble_eq_true rfl) dX6_goToNextOrder_76 (fun S_1 v_2 H locs h hG => ?_)
  refine lv_iload_n hx hb dX6_goToNextOrder_79 rfl (lv_at hl 1 rfl) ?_
  refine lv_iconst (v := (1 : Int32)) hx hb dX6_goToNextOrder_80 (by decide) ?_
  refine x_iadd hM h dX6_goToNextOrder_81 (fun v_3 h => ?_)
  refine lv_istore_n (lv' := [(3, .int v_3), (0, .ref (a 89)), (1, .int x1), (2, .int x2)]) hx hb dX6_goToNextOrder_82 rfl hl (by decide) rfl (fun ls hl => ?_)
  refine lv_aload_n hx hb dX6_goToNextOrder_83 rfl (lv_at hl 1 rfl) ?_
  refine x_gi hM hG xfl_X6_32 xct_89 (by decide) rfl h dX6_goToNextOrder_84 (fun v_4 h => ?_)
  refine lv_iconst (v := (1 : Int32)) hx hb dX6_goToNextOrder_87 (by decide) ?_
  refine x_isub hM h dX6_goToNextOrder_88 (fun v_5 h => ?_)
  refine lv_istore (lv' := [(4, .int v_5), (3, .int v_3), (0, .ref (a 89)), (1, .int x1), (2, .int x2)]) hx hb dX6_goToNextOrder_89 hl (by decide) rfl (fun ls hl => ?_)
  exact wl_X6_goToNextOrder_91 hM hr hlk (fun t0 e => k0 t0 e) 5000 _ _ _ _ _ _ h hG (lv_sub hl [2, 1, 0] rfl)
set_option maxHeartbeats 4000000 in
set_option maxRecDepth 100000 in
theorem w_X6_goToNextOrder_47 {x1 : Int32} {x2 : Int32} (hM : xM p c cX6_goToNextOrder m s args RX6 5 D cy xtb a z) (hr : meth.sig.returnType = (some .boolean)) (hlk : meth.locks = false) {S' : xSt} {v' : Int32} {S : xSt} {q : ((xSt × Int32) ⊕ (xSt × Int32))} (h : f_X6_goToNextOrder_47 x1 S x2 = some q) (k0 : ∀ t0 : xSt × Int32, q = (.inr t0) → t0 = (S', v')) (k1 : ∀ (S : xSt) (x2 : Int32), q = (.inl (S, x2)) → ∀ (H : Heap) (locs : List Loc) (ls : Array Slot), xG D cy xtb a S s H locs → lv_has ls 5 [(0, .ref (a 89)), (1, .int x1), (2, .int x2)] → W p l e ({ frames := 1, cells := 0, slots := 0, locals := 23 } : Room) s m args below meth c H locs 0 0 (MQ below (xQi D cy xtb a S' v' s.heap.size) args s 0 0 (xA xtb a s.heap.size)) (F0 m 47 ls [])) {H : Heap} {locs : List Loc} (hG : xG D cy xtb a S s H locs) {ls : Array Slot} (hl : lv_has ls 5 [(0, .ref (a 89)), (1, .int x1), (2, .int x2)]) : W p l e ({ frames := 1, cells := 0, slots := 0, locals := 23 } : Room) s m args below meth c H locs 0 0 (MQ below (xQi D cy xtb a S' v' s.heap.size) args s 0 0 (xA xtb a s.heap.size)) (F0 m 47 ls []) := by
  have hx := hM.1
  have hb := hM.2.1
  refine lv_iload_n hx hb dX6_goToNextOrder_47 rfl (lv_at hl 2 rfl) ?_
  refine lv_iload_n hx hb dX6_goToNextOrder_48 rfl (lv_at hl 1 rfl) ?_
  refine x_icmp_le (tgt := 73) hM h dX6_goToNextOrder_49 (by decide) (fun c_1 h => ?_) (fun c_1 h => ?_)
  · obtain ⟨q1, h, e1⟩ := xmr_at h
    exact w_X6_goToNextOrder_73 hM hr hlk h (fun t0 e => k0 t0 (by rw [e1, e])) hG (lv_sub hl [0, 1, 2] rfl)
  · refine lv_aload_n hx hb dX6_goToNextOrder_52 rfl (lv_at hl 0 rfl) ?_
    refine x_gr (r := 91) hM hG xfl_X6_15 xct_89 (by decide) rfl dX6_goToNextOrder_53 ?_
    refine lv_iload_n hx hb dX6_goToNextOrder_56 rfl (lv_at hl 2 rfl) ?_
    refine x_iald hM hG xct_91 h dX6_goToNextOrder_57 (fun v_2 h => ?_)
    refine lv_aload_n hx hb dX6_goToNextOrder_58 rfl (lv_at hl 0 rfl) ?_
    refine x_gr (r := 91) hM hG xfl_X6_15 xct_89 (by decide) rfl dX6_goToNextOrder_59 ?_
    refine lv_iload_n hx hb dX6_goToNextOrder_62 rfl (lv_at hl 1 rfl) ?_
    refine x_iald hM hG xct_91 h dX6_goToNextOrder_63 (fun v_3 h => ?_)
    refine x_icmp_ge (tgt := 73) hM h dX6_goToNextOrder_64 (by decide) (fun c_4 h => ?_) (fun c_4 h => ?_)
    · obtain ⟨q1, h, e1⟩ := xmr_at h
      exact w_X6_goToNextOrder_73 hM hr hlk h (fun t0 e => k0 t0 (by rw [e1, e])) hG (lv_sub hl [0, 1, 2] rfl)
    · refine x_iinc hM (fun v => [(2, .int v), (0, .ref (a 89)), (1, .int x1)]) h dX6_goToNextOrder_67 hl (k := 2) rfl (by decide) (by decide) (fun _ => rfl) (fun v_5 ls h hl => ?_)
      refine lv_goto (tgt := 47) hx hb dX6_goToNextOrder_70 (by decide) ?_
      exact k1 _ _ (Option.some.inj h).symm _ _ _ hG (lv_sub hl [1, 2, 0] rfl)
theorem wl_X6_goToNextOrder_47 {x1 : Int32} (hM : xM p c cX6_goToNextOrder m s args RX6 5 D cy xtb a z) (hr : meth.sig.returnType = (some .boolean)) (hlk : meth.locks = false) {S' : xSt} {v' : Int32} {q : (xSt × Int32)} (k0 : ∀ t0 : xSt × Int32, q = t0 → t0 = (S', v')) (n : Nat) : ∀ (S : xSt) (x2 : Int32) (H : Heap) (locs : List Loc) (ls : Array Slot), xlp (fun q : (xSt × Int32) => f_X6_goToNextOrder_47 x1 q.1 q.2) n (S, x2) = some q → xG D cy xtb a S s H locs → lv_has ls 5 [(0, .ref (a 89)), (1, .int x1), (2, .int x2)] → W p l e ({ frames := 1, cells := 0, slots := 0, locals := 23 } : Room) s m args below meth c H locs 0 0 (MQ below (xQi D cy xtb a S' v' s.heap.size) args s 0 0 (xA xtb a s.heap.size)) (F0 m 47 ls []) := by
  induction n with
  | zero => intro S x2 H locs ls h; exact (xlp_0 h).elim
  | succ n ih =>
    intro S x2 H locs ls h hG hl
    obtain ⟨q1, hq, hc, he⟩ := xlp_at h
    exact w_X6_goToNextOrder_47 hM hr hlk (q := q1) hq (fun t0 e => k0 t0 (he _ e).symm) (fun S x2 e H locs ls hG hl => ih S x2 H locs ls (hc _ e) hG hl) hG hl
set_option maxHeartbeats 4000000 in
set_option maxRecDepth 100000 in
theorem w_X6_goToNextOrder_34 {x1 : Int32} (hM : xM p c cX6_goToNextOrder m s args RX6 5 D cy xtb a z) (hr : meth.sig.returnType = (some .boolean)) (hlk : meth.locks = false) {S' : xSt} {v' : Int32} {S : xSt} {q : (xSt × Int32)} (h : f_X6_goToNextOrder_34 x1 S = some q) (k0 : ∀ t0 : xSt × Int32, q = t0 → t0 = (S', v')) {H : Heap} {locs : List Loc} (hG : xG D cy xtb a S s H locs) {ls : Array Slot} (hl : lv_has ls 5 [(0, .ref (a 89)), (1, .int x1)]) : W p l e ({ frames := 1, cells := 0, slots := 0, locals := 23 } : Room) s m args below meth c H locs 0 0 (MQ below (xQi D cy xtb a S' v' s.heap.size) args s 0 0 (xA xtb a s.heap.size)) (F0 m 34 ls []) := by
  have hx := hM.1
  have hb := hM.2.1
  refine lv_iload_n hx hb dX6_goToNextOrder_34 rfl (lv_at hl 1 rfl) ?_
  refine x_if_ge (tgt := 40) hM h dX6_goToNextOrder_35 (by decide) (fun c_1 h => ?_) (fun c_1 h => ?_)
  · refine lv_aload_n hx hb dX6_goToNextOrder_40 rfl (lv_at hl 0 rfl) ?_
    refine x_gi hM hG xfl_X6_32 xct_89 (by decide) rfl h dX6_goToNextOrder_41 (fun v_2 h => ?_)
    refine lv_iconst (v := (1 : Int32)) hx hb dX6_goToNextOrder_44 (by decide) ?_
    refine x_isub hM h dX6_goToNextOrder_45 (fun v_3 h => ?_)
    refine lv_istore_n (lv' := [(2, .int v_3), (0, .ref (a 89)), (1, .int x1)]) hx hb dX6_goToNextOrder_46 rfl hl (by decide) rfl (fun ls hl => ?_)
    exact wl_X6_goToNextOrder_47 hM hr hlk (fun t0 e => k0 t0 e) 5000 _ _ _ _ _ h hG (lv_sub hl [1, 2, 0] rfl)
  · refine lv_iconst (v := (0 : Int32)) hx hb dX6_goToNextOrder_38 (by decide) ?_
    obtain ⟨hz, h⟩ := xgd_at h
    exact x_ri hM hG hr hlk (x_nz hz) (k0 _ (Option.some.inj h).symm) dX6_goToNextOrder_39
set_option maxHeartbeats 4000000 in
set_option maxRecDepth 100000 in
theorem w_X6_goToNextOrder_7 {x1 : Int32} (hM : xM p c cX6_goToNextOrder m s args RX6 5 D cy xtb a z) (hr : meth.sig.returnType = (some .boolean)) (hlk : meth.locks = false) {S' : xSt} {v' : Int32} {S : xSt} {q : ((xSt × Int32) ⊕ (xSt × Int32))} (h : f_X6_goToNextOrder_7 S x1 = some q) (k0 : ∀ t0 : xSt × Int32, q = (.inr t0) → t0 = (S', v')) (k1 : ∀ (S : xSt) (x1 : Int32), q = (.inl (S, x1)) → ∀ (H : Heap) (locs : List Loc) (ls : Array Slot), xG D cy xtb a S s H locs → lv_has ls 5 [(0, .ref (a 89)), (1, .int x1)] → W p l e ({ frames := 1, cells := 0, slots := 0, locals := 23 } : Room) s m args below meth c H locs 0 0 (MQ below (xQi D cy xtb a S' v' s.heap.size) args s 0 0 (xA xtb a s.heap.size)) (F0 m 7 ls [])) {H : Heap} {locs : List Loc} (hG : xG D cy xtb a S s H locs) {ls : Array Slot} (hl : lv_has ls 5 [(0, .ref (a 89)), (1, .int x1)]) : W p l e ({ frames := 1, cells := 0, slots := 0, locals := 23 } : Room) s m args below meth c H locs 0 0 (MQ below (xQi D cy xtb a S' v' s.heap.size) args s 0 0 (xA xtb a s.heap.size)) (F0 m 7 ls []) := by
  have hx := hM.1
  have hb := hM.2.1
  refine lv_iload_n hx hb dX6_goToNextOrder_7 rfl (lv_at hl 1 rfl) ?_
  refine x_if_lt (tgt := 34) hM h dX6_goToNextOrder_8 (by decide) (fun c_1 h => ?_) (fun c_1 h => ?_)
  · obtain ⟨q1, h, e1⟩ := xmr_at h
    exact w_X6_goToNextOrder_34 hM hr hlk h (fun t0 e => k0 t0 (by rw [e1, e])) hG (lv_sub hl [0, 1] rfl)
  · refine lv_aload_n hx hb dX6_goToNextOrder_11 rfl (lv_at hl 0 rfl) ?_
    refine x_gr (r := 91) hM hG xfl_X6_15 xct_89 (by decide) rfl dX6_goToNextOrder_12 ?_
    refine lv_iload_n hx hb dX6_goToNextOrder_15 rfl (lv_at hl 1 rfl) ?_
    refine x_iald hM hG xct_91 h dX6_goToNextOrder_16 (fun v_2 h => ?_)
    refine lv_aload_n hx hb dX6_goToNextOrder_17 rfl (lv_at hl 0 rfl) ?_
    refine x_gr (r := 91) hM hG xfl_X6_15 xct_89 (by decide) rfl dX6_goToNextOrder_18 ?_
    refine lv_iload_n hx hb dX6_goToNextOrder_21 rfl (lv_at hl 1 rfl) ?_
    refine lv_iconst (v := (1 : Int32)) hx hb dX6_goToNextOrder_22 (by decide) ?_
    refine x_iadd hM h dX6_goToNextOrder_23 (fun v_3 h => ?_)
    refine x_iald hM hG xct_91 h dX6_goToNextOrder_24 (fun v_4 h => ?_)
    refine x_icmp_le (tgt := 34) hM h dX6_goToNextOrder_25 (by decide) (fun c_5 h => ?_) (fun c_5 h => ?_)
    · obtain ⟨q1, h, e1⟩ := xmr_at h
      exact w_X6_goToNextOrder_34 hM hr hlk h (fun t0 e => k0 t0 (by rw [e1, e])) hG (lv_sub hl [0, 1] rfl)
    · refine x_iinc hM (fun v => [(1, .int v), (0, .ref (a 89))]) h dX6_goToNextOrder_28 hl (k := 1) rfl (by decide) (by decide) (fun _ => rfl) (fun v_6 ls h hl => ?_)
      refine lv_goto (tgt := 7) hx hb dX6_goToNextOrder_31 (by decide) ?_
      exact k1 _ _ (Option.some.inj h).symm _ _ _ hG (lv_sub hl [1, 0] rfl)
theorem wl_X6_goToNextOrder_7 (hM : xM p c cX6_goToNextOrder m s args RX6 5 D cy xtb a z) (hr : meth.sig.returnType = (some .boolean)) (hlk : meth.locks = false) {S' : xSt} {v' : Int32} {q : (xSt × Int32)} (k0 : ∀ t0 : xSt × Int32, q = t0 → t0 = (S', v')) (n : Nat) : ∀ (S : xSt) (x1 : Int32) (H : Heap) (locs : List Loc) (ls : Array Slot), xlp (fun q : (xSt × Int32) => f_X6_goToNextOrder_7 q.1 q.2) n (S, x1) = some q → xG D cy xtb a S s H locs → lv_has ls 5 [(0, .ref (a 89)), (1, .int x1)] → W p l e ({ frames := 1, cells := 0, slots := 0, locals := 23 } : Room) s m args below meth c H locs 0 0 (MQ below (xQi D cy xtb a S' v' s.heap.size) args s 0 0 (xA xtb a s.heap.size)) (F0 m 7 ls []) := by
  induction n with
  | zero => intro S x1 H locs ls h; exact (xlp_0 h).elim
  | succ n ih =>
    intro S x1 H locs ls h hG hl
    obtain ⟨q1, hq, hc, he⟩ := xlp_at h
    exact w_X6_goToNextOrder_7 hM hr hlk (q := q1) hq (fun t0 e => k0 t0 (he _ e).symm) (fun S x1 e H locs ls hG hl => ih S x1 H locs ls (hc _ e) hG hl) hG hl
set_option maxHeartbeats 4000000 in
set_option maxRecDepth 100000 in
theorem w_X6_goToNextOrder_0 (hM : xM p c cX6_goToNextOrder m s args RX6 5 D cy xtb a z) (hr : meth.sig.returnType = (some .boolean)) (hlk : meth.locks = false) {S' : xSt} {v' : Int32} {S : xSt} {q : (xSt × Int32)} (h : f_X6_goToNextOrder_0 S = some q) (k0 : ∀ t0 : xSt × Int32, q = t0 → t0 = (S', v')) {H : Heap} {locs : List Loc} (hG : xG D cy xtb a S s H locs) {ls : Array Slot} (hl : lv_has ls 5 [(0, .ref (a 89))]) : W p l e ({ frames := 1, cells := 0, slots := 0, locals := 23 } : Room) s m args below meth c H locs 0 0 (MQ below (xQi D cy xtb a S' v' s.heap.size) args s 0 0 (xA xtb a s.heap.size)) (F0 m 0 ls []) := by
  have hx := hM.1
  have hb := hM.2.1
  refine lv_aload_n hx hb dX6_goToNextOrder_0 rfl (lv_at hl 0 rfl) ?_
  refine x_gi hM hG xfl_X6_32 xct_89 (by decide) rfl h dX6_goToNextOrder_1 (fun v_1 h => ?_)
  refine lv_iconst (v := (2 : Int32)) hx hb dX6_goToNextOrder_4 (by decide) ?_
  refine x_isub hM h dX6_goToNextOrder_5 (fun v_2 h => ?_)
  refine lv_istore_n (lv' := [(1, .int v_2), (0, .ref (a 89))]) hx hb dX6_goToNextOrder_6 rfl hl (by decide) rfl (fun ls hl => ?_)
  exact wl_X6_goToNextOrder_7 hM hr hlk (fun t0 e => k0 t0 e) 5000 _ _ _ _ _ h hG (lv_sub hl [1, 0] rfl)
set_option maxHeartbeats 4000000 in
set_option maxRecDepth 100000 in
theorem c_X6_goToNextOrder {l : Launch} {D : va_G} {cy : Nat → ClassId} {a z : Nat → Nat} (hI : xI xtb a) {S : xSt} {S' : xSt} {v' : Int32} (hf : f_X6_goToNextOrder S = some (S', v')) (sz : Nat) : Met l yX6_goToNextOrder (Cond.code yX6_goToNextOrder cX6_goToNextOrder 5 (some .boolean) :: xTB) ({ frames := 1, cells := 0, slots := 0, locals := 23 } : Room) (va_Pc [.ref (a 89)] (xPre D cy xtb a z S sz)) (xQi D cy xtb a S' v' sz) 0 0 (xA xtb a sz) := by
  refine Met.ofW (cc := cX6_goToNextOrder) (maxL := 5) (ret := (some .boolean)) (by decide) rfl ?_
  intro p e s m args below meth c s₁ B hml hv
  obtain ⟨rfl, hsz, hP, hK, hE⟩ := hv
  subst hsz
  have hl := lv_entry ([.ref (a 89)]) (n := 5) (Nat.le_of_ble_eq_true rfl)
  rw [lg_entry_eq]
  generalize (lg_sl ([.ref (a 89)]) ++ List.replicate (5 - (lg_sl ([.ref (a 89)])).length) Slot.unset).toArray = ls at hl ⊢
  have hl : lv_has ls 5 [(0, .ref (a 89))] := hl
  exact w_X6_goToNextOrder_0 ⟨B.exec, B.bytes, hml, findClass_of_methodNamed B.named, fun w hw => atoms_spec (ws := Cond.code yX6_goToNextOrder cX6_goToNextOrder 5 (some .boolean) :: xTB) B.pre w (List.mem_cons_of_mem _ hw), hK, hI, hE⟩ B.returns B.notSynchronized hf (fun t0 e => e.symm) ⟨hP, va_S.rf⟩ (lv_sub hl [0] rfl)
set_option maxHeartbeats 4000000 in
set_option maxRecDepth 100000 in
theorem w_X6_seek_77 {o1 : Nat} (ho1 : xIs_X8 o1) {x2 : Int32} {x4 : Int32} (hM : xM p c cX6_seek m s args RX6 5 D cy xtb a z) (hr : meth.sig.returnType = none) (hlk : meth.locks = false) {S' : xSt} {v' : Unit} {S : xSt} {q : ((xSt × Int32 × Int32) ⊕ (xSt × Unit))} (h : f_X6_seek_77 o1 x2 x4 S = some q) (k0 : ∀ t0 : xSt × Unit, q = (.inr t0) → t0 = (S', v')) (k1 : ∀ (S : xSt) (x3 : Int32) (x4 : Int32), q = (.inl (S, x3, x4)) → ∀ (H : Heap) (locs : List Loc) (ls : Array Slot), xG D cy xtb a S s H locs → lv_has ls 5 [(0, .ref (a 89)), (2, .int x2), (3, .int x3), (4, .int x4)] → W p l e ({ frames := 6, cells := 0, slots := 0, locals := 146 } : Room) s m args below meth c H locs 0 0 (MQ below (xQv D cy xtb a S' v' s.heap.size) args s 0 0 (xA xtb a s.heap.size)) (F0 m 53 ls [])) {H : Heap} {locs : List Loc} (hG : xG D cy xtb a S s H locs) {ls : Array Slot} (hl : lv_has ls 5 [(0, .ref (a 89)), (2, .int x2), (4, .int x4)]) : W p l e ({ frames := 6, cells := 0, slots := 0, locals := 146 } : Room) s m args below meth c H locs 0 0 (MQ below (xQv D cy xtb a S' v' s.heap.size) args s 0 0 (xA xtb a s.heap.size)) (F0 m 77 ls []) := by
  have hx := hM.1
  have hb := hM.2.1
  refine lv_aload_n hx hb dX6_seek_77 rfl (lv_at hl 0 rfl) ?_
  refine x_cVi (As := []) (rest := []) hM hG xml_X6_52 xwi_X6_goToNextOrder xws_X6_goToNextOrder xct_89 (by decide) rfl h (fun S' v e => c_X6_goToNextOrder hM.2.2.2.2.2.2.1 e _) ⟨Nat.le_of_ble_eq_true rfl, Nat.le_of_ble_eq_true rfl⟩ rfl hl.1 rfl (Nat.le_of_ble_eq_true rfl) dX6_seek_78 (fun S_1 v_2 H locs h hG => ?_)
  refine lv_istore_n (lv' := [(3, .int v_2), (0, .ref (a 89)), (2, .int x2), (4, .int x4)]) hx hb dX6_seek_81 rfl hl (by decide) rfl (fun ls hl => ?_)
  refine x_iinc hM (fun v => [(4, .int v), (3, .int v_2), (0, .ref (a 89)), (2, .int x2)]) h dX6_seek_82 hl (k := 3) rfl (by decide) (by decide) (fun _ => rfl) (fun v_3 ls h hl => ?_)
  refine lv_goto (tgt := 53) hx hb dX6_seek_85 (by decide) ?_
  exact k1 _ _ _ (Option.some.inj h).symm _ _ _ hG (lv_sub hl [2, 3, 1, 0] rfl)
set_option maxHeartbeats 4000000 in
set_option maxRecDepth 100000 in
theorem w_X6_seek_53 {o1 : Nat} (ho1 : xIs_X8 o1) {x2 : Int32} {x3 : Int32} {x4 : Int32} (hM : xM p c cX6_seek m s args RX6 5 D cy xtb a z) (hr : meth.sig.returnType = none) (hlk : meth.locks = false) {S' : xSt} {v' : Unit} {S : xSt} {q : ((xSt × Int32 × Int32) ⊕ (xSt × Unit))} (h : f_X6_seek_53 o1 x2 S x3 x4 = some q) (k0 : ∀ t0 : xSt × Unit, q = (.inr t0) → t0 = (S', v')) (k1 : ∀ (S : xSt) (x3 : Int32) (x4 : Int32), q = (.inl (S, x3, x4)) → ∀ (H : Heap) (locs : List Loc) (ls : Array Slot), xG D cy xtb a S s H locs → lv_has ls 5 [(0, .ref (a 89)), (2, .int x2), (3, .int x3), (4, .int x4)] → W p l e ({ frames := 6, cells := 0, slots := 0, locals := 146 } : Room) s m args below meth c H locs 0 0 (MQ below (xQv D cy xtb a S' v' s.heap.size) args s 0 0 (xA xtb a s.heap.size)) (F0 m 53 ls [])) {H : Heap} {locs : List Loc} (hG : xG D cy xtb a S s H locs) {ls : Array Slot} (hl : lv_has ls 5 [(0, .ref (a 89)), (2, .int x2), (3, .int x3), (4, .int x4)]) : W p l e ({ frames := 6, cells := 0, slots := 0, locals := 146 } : Room) s m args below meth c H locs 0 0 (MQ below (xQv D cy xtb a S' v' s.heap.size) args s 0 0 (xA xtb a s.heap.size)) (F0 m 53 ls []) := by
  have hx := hM.1
  have hb := hM.2.1
  refine lv_iload hx hb dX6_seek_53 (lv_at hl 3 rfl) ?_
  refine lv_sipush (v := (720 : Int32)) hx hb dX6_seek_55 (by decide) ?_
  refine x_icmp_ge (tgt := 88) hM h dX6_seek_58 (by decide) (fun c_1 h => ?_) (fun c_1 h => ?_)
  · exact x_rv hM hG hr hlk (k0 _ (Option.some.inj h).symm) dX6_seek_88
  · refine lv_iload_n hx hb dX6_seek_61 rfl (lv_at hl 2 rfl) ?_
    refine x_if_eq (tgt := 88) hM h dX6_seek_62 (by decide) (fun c_2 h => ?_) (fun c_2 h => ?_)
    · exact x_rv hM hG hr hlk (k0 _ (Option.some.inj h).symm) dX6_seek_88
    · refine lv_aload_n hx hb dX6_seek_65 rfl (lv_at hl 0 rfl) ?_
      refine x_cVi (As := []) (rest := []) hM hG xml_X6_44 xwi_X6_isRepeated xws_X6_isRepeated xct_89 (by decide) rfl h (fun S' v e => c_X6_isRepeated hM.2.2.2.2.2.2.1 e _) ⟨Nat.le_of_ble_eq_true rfl, Nat.le_of_ble_eq_true rfl⟩ rfl hl.1 rfl (Nat.le_of_ble_eq_true rfl) dX6_seek_66 (fun S_3 v_4 H locs h hG => ?_)
      refine x_if_ne (tgt := 77) hM h dX6_seek_69 (by decide) (fun c_5 h => ?_) (fun c_5 h => ?_)
      · exact w_X6_seek_77 ho1 hM hr hlk h (fun t0 e => k0 t0 e) (fun S x3 x4 e => k1 S x3 x4 e) hG (lv_sub hl [0, 1, 3] rfl)
      · refine lv_aload_n hx hb dX6_seek_72 rfl (lv_at hl 0 rfl) ?_
        refine lv_iload_n hx hb dX6_seek_73 rfl (lv_at hl 1 rfl) ?_
        refine x_cVv (As := [.int x2]) (rest := []) hM hG xml_X6_48 xwi_X6_weigh xws_X6_weigh xct_89 (by decide) rfl h (fun S' v e => c_X6_weigh hM.2.2.2.2.2.2.1 e _) ⟨Nat.le_of_ble_eq_true rfl, Nat.le_of_ble_eq_true rfl⟩ rfl hl.1 rfl (Nat.le_of_ble_eq_true rfl) dX6_seek_74 (fun S_6 v_7 H locs h hG => ?_)
        exact w_X6_seek_77 ho1 hM hr hlk h (fun t0 e => k0 t0 e) (fun S x3 x4 e => k1 S x3 x4 e) hG (lv_sub hl [0, 1, 3] rfl)
theorem wl_X6_seek_53 {o1 : Nat} (ho1 : xIs_X8 o1) {x2 : Int32} (hM : xM p c cX6_seek m s args RX6 5 D cy xtb a z) (hr : meth.sig.returnType = none) (hlk : meth.locks = false) {S' : xSt} {v' : Unit} {q : (xSt × Unit)} (k0 : ∀ t0 : xSt × Unit, q = t0 → t0 = (S', v')) (n : Nat) : ∀ (S : xSt) (x3 : Int32) (x4 : Int32) (H : Heap) (locs : List Loc) (ls : Array Slot), xlp (fun q : (xSt × Int32 × Int32) => f_X6_seek_53 o1 x2 q.1 q.2.1 q.2.2) n (S, x3, x4) = some q → xG D cy xtb a S s H locs → lv_has ls 5 [(0, .ref (a 89)), (2, .int x2), (3, .int x3), (4, .int x4)] → W p l e ({ frames := 6, cells := 0, slots := 0, locals := 146 } : Room) s m args below meth c H locs 0 0 (MQ below (xQv D cy xtb a S' v' s.heap.size) args s 0 0 (xA xtb a s.heap.size)) (F0 m 53 ls []) := by
  induction n with
  | zero => intro S x3 x4 H locs ls h; exact (xlp_0 h).elim
  | succ n ih =>
    intro S x3 x4 H locs ls h hG hl
    obtain ⟨q1, hq, hc, he⟩ := xlp_at h
    exact w_X6_seek_53 ho1 hM hr hlk (q := q1) hq (fun t0 e => k0 t0 (he _ e).symm) (fun S x3 x4 e H locs ls hG hl => ih S x3 x4 H locs ls (hc _ e) hG hl) hG hl
set_option maxHeartbeats 4000000 in
set_option maxRecDepth 100000 in
theorem w_X6_seek_48 {o1 : Nat} (ho1 : xIs_X8 o1) {x2 : Int32} (hM : xM p c cX6_seek m s args RX6 5 D cy xtb a z) (hr : meth.sig.returnType = none) (hlk : meth.locks = false) {S' : xSt} {v' : Unit} {S : xSt} {q : (xSt × Unit)} (h : f_X6_seek_48 o1 x2 S = some q) (k0 : ∀ t0 : xSt × Unit, q = t0 → t0 = (S', v')) {H : Heap} {locs : List Loc} (hG : xG D cy xtb a S s H locs) {ls : Array Slot} (hl : lv_has ls 5 [(0, .ref (a 89)), (2, .int x2)]) : W p l e ({ frames := 6, cells := 0, slots := 0, locals := 146 } : Room) s m args below meth c H locs 0 0 (MQ below (xQv D cy xtb a S' v' s.heap.size) args s 0 0 (xA xtb a s.heap.size)) (F0 m 48 ls []) := by
  have hx := hM.1
  have hb := hM.2.1
  refine lv_iconst (v := (1 : Int32)) hx hb dX6_seek_48 (by decide) ?_
  refine lv_istore_n (lv' := [(3, .int (1 : Int32)), (0, .ref (a 89)), (2, .int x2)]) hx hb dX6_seek_49 rfl hl (by decide) rfl (fun ls hl => ?_)
  refine lv_iconst (v := (0 : Int32)) hx hb dX6_seek_50 (by decide) ?_
  refine lv_istore (lv' := [(4, .int (0 : Int32)), (3, .int (1 : Int32)), (0, .ref (a 89)), (2, .int x2)]) hx hb dX6_seek_51 hl (by decide) rfl (fun ls hl => ?_)
  exact wl_X6_seek_53 ho1 hM hr hlk (fun t0 e => k0 t0 e) 5000 _ _ _ _ _ _ h hG (lv_sub hl [2, 3, 1, 0] rfl)
set_option maxHeartbeats 4000000 in
set_option maxRecDepth 100000 in
theorem w_X6_seek_13 {o1 : Nat} (ho1 : xIs_X8 o1) {x2 : Int32} {x3 : Int32} (hM : xM p c cX6_seek m s args RX6 5 D cy xtb a z) (hr : meth.sig.returnType = none) (hlk : meth.locks = false) {S' : xSt} {v' : Unit} {S : xSt} {q : ((xSt × Int32) ⊕ (xSt × Unit))} (h : f_X6_seek_13 o1 x2 S x3 = some q) (k0 : ∀ t0 : xSt × Unit, q = (.inr t0) → t0 = (S', v')) (k1 : ∀ (S : xSt) (x3 : Int32), q = (.inl (S, x3)) → ∀ (H : Heap) (locs : List Loc) (ls : Array Slot), xG D cy xtb a S s H locs → lv_has ls 5 [(0, .ref (a 89)), (2, .int x2), (3, .int x3)] → W p l e ({ frames := 6, cells := 0, slots := 0, locals := 146 } : Room) s m args below meth c H locs 0 0 (MQ below (xQv D cy xtb a S' v' s.heap.size) args s 0 0 (xA xtb a s.heap.size)) (F0 m 13 ls [])) {H : Heap} {locs : List Loc} (hG : xG D cy xtb a S s H locs) {ls : Array Slot} (hl : lv_has ls 5 [(0, .ref (a 89)), (2, .int x2), (3, .int x3)]) : W p l e ({ frames := 6, cells := 0, slots := 0, locals := 146 } : Room) s m args below meth c H locs 0 0 (MQ below (xQv D cy xtb a S' v' s.heap.size) args s 0 0 (xA xtb a s.heap.size)) (F0 m 13 ls []) := by
  have hx := hM.1
  have hb := hM.2.1
  refine lv_iload_n hx hb dX6_seek_13 rfl (lv_at hl 2 rfl) ?_
  refine lv_aload_n hx hb dX6_seek_14 rfl (lv_at hl 0 rfl) ?_
  refine x_gi hM hG xfl_X6_32 xct_89 (by decide) rfl h dX6_seek_15 (fun v_1 h => ?_)
  refine x_icmp_ge (tgt := 48) hM h dX6_seek_18 (by decide) (fun c_2 h => ?_) (fun c_2 h => ?_)
  · obtain ⟨q1, h, e1⟩ := xmr_at h
    exact w_X6_seek_48 ho1 hM hr hlk h (fun t0 e => k0 t0 (by rw [e1, e])) hG (lv_sub hl [0, 1] rfl)
  · refine lv_aload_n hx hb dX6_seek_21 rfl (lv_at hl 0 rfl) ?_
    refine x_gr (r := 16) hM hG xfl_X6_21 xct_89 (by decide) rfl dX6_seek_22 ?_
    refine x_gr (r := 16 + 1) hM hG xfl_X6_39 xih_hay.1 (by decide) rfl dX6_seek_25 ?_
    refine lv_iload_n hx hb dX6_seek_28 rfl (lv_at hl 2 rfl) ?_
    refine x_iald hM hG xih_hay.2.1 h dX6_seek_29 (fun v_3 h => ?_)
    refine lv_iconst (v := (5 : Int32)) hx hb dX6_seek_30 (by decide) ?_
    refine x_icmp_lt (tgt := 35) hM h dX6_seek_31 (by decide) (fun c_4 h => ?_) (fun c_4 h => ?_)
    · refine lv_aload_n hx hb dX6_seek_35 rfl (lv_at hl 0 rfl) ?_
      refine x_gr (r := 91) hM hG xfl_X6_15 xct_89 (by decide) rfl dX6_seek_36 ?_
      refine lv_iload_n hx hb dX6_seek_39 rfl (lv_at hl 2 rfl) ?_
      refine lv_iload_n hx hb dX6_seek_40 rfl (lv_at hl 2 rfl) ?_
      refine x_iast hM hG xct_91 h dX6_seek_41 (fun S_5 H locs h hG => ?_)
      refine x_iinc hM (fun v => [(3, .int v), (0, .ref (a 89)), (2, .int x2)]) h dX6_seek_42 hl (k := 2) rfl (by decide) (by decide) (fun _ => rfl) (fun v_6 ls h hl => ?_)
      refine lv_goto (tgt := 13) hx hb dX6_seek_45 (by decide) ?_
      exact k1 _ _ (Option.some.inj h).symm _ _ _ hG (lv_sub hl [1, 2, 0] rfl)
    · exact x_rv hM hG hr hlk (k0 _ (Option.some.inj h).symm) dX6_seek_34
theorem wl_X6_seek_13 {o1 : Nat} (ho1 : xIs_X8 o1) {x2 : Int32} (hM : xM p c cX6_seek m s args RX6 5 D cy xtb a z) (hr : meth.sig.returnType = none) (hlk : meth.locks = false) {S' : xSt} {v' : Unit} {q : (xSt × Unit)} (k0 : ∀ t0 : xSt × Unit, q = t0 → t0 = (S', v')) (n : Nat) : ∀ (S : xSt) (x3 : Int32) (H : Heap) (locs : List Loc) (ls : Array Slot), xlp (fun q : (xSt × Int32) => f_X6_seek_13 o1 x2 q.1 q.2) n (S, x3) = some q → xG D cy xtb a S s H locs → lv_has ls 5 [(0, .ref (a 89)), (2, .int x2), (3, .int x3)] → W p l e ({ frames := 6, cells := 0, slots := 0, locals := 146 } : Room) s m args below meth c H locs 0 0 (MQ below (xQv D cy xtb a S' v' s.heap.size) args s 0 0 (xA xtb a s.heap.size)) (F0 m 13 ls []) := by
  induction n with
  | zero => intro S x3 H locs ls h; exact (xlp_0 h).elim
  | succ n ih =>
    intro S x3 H locs ls h hG hl
    obtain ⟨q1, hq, hc, he⟩ := xlp_at h
    exact w_X6_seek_13 ho1 hM hr hlk (q := q1) hq (fun t0 e => k0 t0 (he _ e).symm) (fun S x3 e H locs ls hG hl => ih S x3 H locs ls (hc _ e) hG hl) hG hl
set_option maxHeartbeats 4000000 in
set_option maxRecDepth 100000 in
theorem w_X6_seek_0 {o1 : Nat} (ho1 : xIs_X8 o1) {x2 : Int32} (hM : xM p c cX6_seek m s args RX6 5 D cy xtb a z) (hr : meth.sig.returnType = none) (hlk : meth.locks = false) {S' : xSt} {v' : Unit} {S : xSt} {q : (xSt × Unit)} (h : f_X6_seek_0 o1 x2 S = some q) (k0 : ∀ t0 : xSt × Unit, q = t0 → t0 = (S', v')) {H : Heap} {locs : List Loc} (hG : xG D cy xtb a S s H locs) {ls : Array Slot} (hl : lv_has ls 5 [(0, .ref (a 89)), (1, .ref (a o1)), (2, .int x2)]) : W p l e ({ frames := 6, cells := 0, slots := 0, locals := 146 } : Room) s m args below meth c H locs 0 0 (MQ below (xQv D cy xtb a S' v' s.heap.size) args s 0 0 (xA xtb a s.heap.size)) (F0 m 0 ls []) := by
  have hx := hM.1
  have hb := hM.2.1
  refine lv_aload_n hx hb dX6_seek_0 rfl (lv_at hl 0 rfl) ?_
  refine lv_aload_n hx hb dX6_seek_1 rfl (lv_at hl 1 rfl) ?_
  refine x_cVv (As := [.ref (a o1)]) (rest := []) hM hG xml_X6_35 xwi_X6_takeLoads xws_X6_takeLoads xct_89 (by decide) rfl h (fun S' v e => c_X6_takeLoads hM.2.2.2.2.2.2.1 ho1 e _) ⟨Nat.le_of_ble_eq_true rfl, Nat.le_of_ble_eq_true rfl⟩ rfl hl.1 rfl (Nat.le_of_ble_eq_true rfl) dX6_seek_2 (fun S_1 v_2 H locs h hG => ?_)
  refine lv_aload_n hx hb dX6_seek_5 rfl (lv_at hl 0 rfl) ?_
  refine lv_bipush (v := (-2 : Int32)) hx hb dX6_seek_6 (by decide) ?_
  refine x_pi hM hG xfl_X6_28 xfp_X6_6 xct_89 (by decide) rfl rfl rfl h dX6_seek_8 (fun S_3 H locs h hG => ?_)
  refine lv_iconst (v := (0 : Int32)) hx hb dX6_seek_11 (by decide) ?_
  refine lv_istore_n (lv' := [(3, .int (0 : Int32)), (0, .ref (a 89)), (1, .ref (a o1)), (2, .int x2)]) hx hb dX6_seek_12 rfl hl (by decide) rfl (fun ls hl => ?_)
  exact wl_X6_seek_13 ho1 hM hr hlk (fun t0 e => k0 t0 e) 5000 _ _ _ _ _ h hG (lv_sub hl [1, 3, 0] rfl)
set_option maxHeartbeats 4000000 in
set_option maxRecDepth 100000 in
theorem c_X6_seek {l : Launch} {D : va_G} {cy : Nat → ClassId} {a z : Nat → Nat} (hI : xI xtb a) {o1 : Nat} (ho1 : xIs_X8 o1) {S : xSt} {x2 : Int32} {S' : xSt} {v' : Unit} (hf : f_X6_seek o1 S x2 = some (S', v')) (sz : Nat) : Met l yX6_seek (Cond.code yX6_seek cX6_seek 5 none :: xTB) ({ frames := 6, cells := 0, slots := 0, locals := 146 } : Room) (va_Pc [.ref (a 89), .ref (a o1), .int x2] (xPre D cy xtb a z S sz)) (xQv D cy xtb a S' v' sz) 0 0 (xA xtb a sz) := by
  refine Met.ofW (cc := cX6_seek) (maxL := 5) (ret := none) (by decide) rfl ?_
  intro p e s m args below meth c s₁ B hml hv
  obtain ⟨rfl, hsz, hP, hK, hE⟩ := hv
  subst hsz
  have hl := lv_entry ([.ref (a 89), .ref (a o1), .int x2]) (n := 5) (Nat.le_of_ble_eq_true rfl)
  rw [lg_entry_eq]
  generalize (lg_sl ([.ref (a 89), .ref (a o1), .int x2]) ++ List.replicate (5 - (lg_sl ([.ref (a 89), .ref (a o1), .int x2])).length) Slot.unset).toArray = ls at hl ⊢
  have hl : lv_has ls 5 [(0, .ref (a 89)), (1, .ref (a o1)), (2, .int x2)] := hl
  exact w_X6_seek_0 ho1 ⟨B.exec, B.bytes, hml, findClass_of_methodNamed B.named, fun w hw => atoms_spec (ws := Cond.code yX6_seek cX6_seek 5 none :: xTB) B.pre w (List.mem_cons_of_mem _ hw), hK, hI, hE⟩ B.returns B.notSynchronized hf (fun t0 e => e.symm) ⟨hP, va_S.rf⟩ (lv_sub hl [0, 1, 2] rfl)
set_option maxHeartbeats 4000000 in
set_option maxRecDepth 100000 in
theorem w_J6_bitCount_0f7a4_0 {x0 : Int32} (hM : xM p c cJ6_bitCount_0f7a4 m s args RJ6 1 D cy xtb a z) (hr : meth.sig.returnType = (some .int)) (hlk : meth.locks = false) {S' : xSt} {v' : Int32} {S : xSt} {q : (xSt × Int32)} (h : f_J6_bitCount_0f7a4_0 x0 S = some q) (k0 : ∀ t0 : xSt × Int32, q = t0 → t0 = (S', v')) {H : Heap} {locs : List Loc} (hG : xG D cy xtb a S s H locs) {ls : Array Slot} (hl : lv_has ls 1 [(0, .int x0)]) : W p l e ({ frames := 0, cells := 0, slots := 0, locals := 0 } : Room) s m args below meth c H locs 0 0 (MQ below (xQi D cy xtb a S' v' s.heap.size) args s 0 0 (xA xtb a s.heap.size)) (F0 m 0 ls []) := by
  have hx := hM.1
  have hb := hM.2.1
  refine lv_iload_n hx hb dJ6_bitCount_0f7a4_0 rfl (lv_at hl 0 rfl) ?_
  refine lv_iload_n hx hb dJ6_bitCount_0f7a4_1 rfl (lv_at hl 0 rfl) ?_
  refine lv_iconst (v := (1 : Int32)) hx hb dJ6_bitCount_0f7a4_2 (by decide) ?_
  refine x_iushr hM h dJ6_bitCount_0f7a4_3 (fun v_1 h => ?_)
  refine lv_ldcw (v := (1431655765 : Int32)) hx hb hM.2.2.2.1 (hM.2.2.2.2.1 _ xcn_J6_265) dJ6_bitCount_0f7a4_4 ?_
  refine x_iand hM h dJ6_bitCount_0f7a4_7 (fun v_2 h => ?_)
  refine x_isub hM h dJ6_bitCount_0f7a4_8 (fun v_3 h => ?_)
  refine lv_istore_n (lv' := [(0, .int v_3)]) hx hb dJ6_bitCount_0f7a4_9 rfl hl (by decide) rfl (fun ls hl => ?_)
  refine lv_iload_n hx hb dJ6_bitCount_0f7a4_10 rfl (lv_at hl 0 rfl) ?_
  refine lv_ldcw (v := (858993459 : Int32)) hx hb hM.2.2.2.1 (hM.2.2.2.2.1 _ xcn_J6_266) dJ6_bitCount_0f7a4_11 ?_
  refine x_iand hM h dJ6_bitCount_0f7a4_14 (fun v_4 h => ?_)
  refine lv_iload_n hx hb dJ6_bitCount_0f7a4_15 rfl (lv_at hl 0 rfl) ?_
  refine lv_iconst (v := (2 : Int32)) hx hb dJ6_bitCount_0f7a4_16 (by decide) ?_
  refine x_iushr hM h dJ6_bitCount_0f7a4_17 (fun v_5 h => ?_)
  refine lv_ldcw (v := (858993459 : Int32)) hx hb hM.2.2.2.1 (hM.2.2.2.2.1 _ xcn_J6_266) dJ6_bitCount_0f7a4_18 ?_
  refine x_iand hM h dJ6_bitCount_0f7a4_21 (fun v_6 h => ?_)
  refine x_iadd hM h dJ6_bitCount_0f7a4_22 (fun v_7 h => ?_)
  refine lv_istore_n (lv' := [(0, .int v_7)]) hx hb dJ6_bitCount_0f7a4_23 rfl hl (by decide) rfl (fun ls hl => ?_)
  refine lv_iload_n hx hb dJ6_bitCount_0f7a4_24 rfl (lv_at hl 0 rfl) ?_
  refine lv_iload_n hx hb dJ6_bitCount_0f7a4_25 rfl (lv_at hl 0 rfl) ?_
  refine lv_iconst (v := (4 : Int32)) hx hb dJ6_bitCount_0f7a4_26 (by decide) ?_
  refine x_iushr hM h dJ6_bitCount_0f7a4_27 (fun v_8 h => ?_)
  refine x_iadd hM h dJ6_bitCount_0f7a4_28 (fun v_9 h => ?_)
  refine lv_ldcw (v := (252645135 : Int32)) hx hb hM.2.2.2.1 (hM.2.2.2.2.1 _ xcn_J6_267) dJ6_bitCount_0f7a4_29 ?_
  refine x_iand hM h dJ6_bitCount_0f7a4_32 (fun v_10 h => ?_)
  refine lv_istore_n (lv' := [(0, .int v_10)]) hx hb dJ6_bitCount_0f7a4_33 rfl hl (by decide) rfl (fun ls hl => ?_)
  refine lv_iload_n hx hb dJ6_bitCount_0f7a4_34 rfl (lv_at hl 0 rfl) ?_
  refine lv_iload_n hx hb dJ6_bitCount_0f7a4_35 rfl (lv_at hl 0 rfl) ?_
  refine lv_bipush (v := (8 : Int32)) hx hb dJ6_bitCount_0f7a4_36 (by decide) ?_
  refine x_iushr hM h dJ6_bitCount_0f7a4_38 (fun v_11 h => ?_)
  refine x_iadd hM h dJ6_bitCount_0f7a4_39 (fun v_12 h => ?_)
  refine lv_istore_n (lv' := [(0, .int v_12)]) hx hb dJ6_bitCount_0f7a4_40 rfl hl (by decide) rfl (fun ls hl => ?_)
  refine lv_iload_n hx hb dJ6_bitCount_0f7a4_41 rfl (lv_at hl 0 rfl) ?_
  refine lv_iload_n hx hb dJ6_bitCount_0f7a4_42 rfl (lv_at hl 0 rfl) ?_
  refine lv_bipush (v := (16 : Int32)) hx hb dJ6_bitCount_0f7a4_43 (by decide) ?_
  refine x_iushr hM h dJ6_bitCount_0f7a4_45 (fun v_13 h => ?_)
  refine x_iadd hM h dJ6_bitCount_0f7a4_46 (fun v_14 h => ?_)
  refine lv_istore_n (lv' := [(0, .int v_14)]) hx hb dJ6_bitCount_0f7a4_47 rfl hl (by decide) rfl (fun ls hl => ?_)
  refine lv_iload_n hx hb dJ6_bitCount_0f7a4_48 rfl (lv_at hl 0 rfl) ?_
  refine lv_bipush (v := (63 : Int32)) hx hb dJ6_bitCount_0f7a4_49 (by decide) ?_
  refine x_iand hM h dJ6_bitCount_0f7a4_51 (fun v_15 h => ?_)
  exact x_ri hM hG hr hlk rfl (k0 _ (Option.some.inj h).symm) dJ6_bitCount_0f7a4_52
set_option maxHeartbeats 4000000 in
set_option maxRecDepth 100000 in
theorem c_J6_bitCount_0f7a4 {l : Launch} {D : va_G} {cy : Nat → ClassId} {a z : Nat → Nat} (hI : xI xtb a) {S : xSt} {x0 : Int32} {S' : xSt} {v' : Int32} (hf : f_J6_bitCount_0f7a4 S x0 = some (S', v')) (sz : Nat) : Met l yJ6_bitCount_0f7a4 (Cond.code yJ6_bitCount_0f7a4 cJ6_bitCount_0f7a4 1 (some .int) :: xTB) ({ frames := 0, cells := 0, slots := 0, locals := 0 } : Room) (va_Pc [.int x0] (xPre D cy xtb a z S sz)) (xQi D cy xtb a S' v' sz) 0 0 (xA xtb a sz) := by
  refine Met.ofW (cc := cJ6_bitCount_0f7a4) (maxL := 1) (ret := (some .int)) (by decide) rfl ?_
  intro p e s m args below meth c s₁ B hml hv
  obtain ⟨rfl, hsz, hP, hK, hE⟩ := hv
  subst hsz
  have hl := lv_entry ([.int x0]) (n := 1) (Nat.le_of_ble_eq_true rfl)
  rw [lg_entry_eq]
  generalize (lg_sl ([.int x0]) ++ List.replicate (1 - (lg_sl ([.int x0])).length) Slot.unset).toArray = ls at hl ⊢
  have hl : lv_has ls 1 [(0, .int x0)] := hl
  exact w_J6_bitCount_0f7a4_0 ⟨B.exec, B.bytes, hml, findClass_of_methodNamed B.named, fun w hw => atoms_spec (ws := Cond.code yJ6_bitCount_0f7a4 cJ6_bitCount_0f7a4 1 (some .int) :: xTB) B.pre w (List.mem_cons_of_mem _ hw), hK, hI, hE⟩ B.returns B.notSynchronized hf (fun t0 e => e.symm) ⟨hP, va_S.rf⟩ (lv_sub hl [0] rfl)
set_option maxHeartbeats 4000000 in
set_option maxRecDepth 100000 in
theorem w_X11_lowestBit_0 {x0 : Int32} (hM : xM p c cX11_lowestBit m s args RX11 1 D cy xtb a z) (hr : meth.sig.returnType = (some .int)) (hlk : meth.locks = false) {S' : xSt} {v' : Int32} {S : xSt} {q : (xSt × Int32)} (h : f_X11_lowestBit_0 x0 S = some q) (k0 : ∀ t0 : xSt × Int32, q = t0 → t0 = (S', v')) {H : Heap} {locs : List Loc} (hG : xG D cy xtb a S s H locs) {ls : Array Slot} (hl : lv_has ls 1 [(0, .int x0)]) : W p l e ({ frames := 1, cells := 0, slots := 0, locals := 20 } : Room) s m args below meth c H locs 0 0 (MQ below (xQi D cy xtb a S' v' s.heap.size) args s 0 0 (xA xtb a s.heap.size)) (F0 m 0 ls []) := by
  have hx := hM.1
  have hb := hM.2.1
  refine lv_iload_n hx hb dX11_lowestBit_0 rfl (lv_at hl 0 rfl) ?_
  refine x_if_ne (tgt := 9) hM h dX11_lowestBit_1 (by decide) (fun c_1 h => ?_) (fun c_1 h => ?_)
  · refine lv_iload_n hx hb dX11_lowestBit_9 rfl (lv_at hl 0 rfl) ?_
    refine lv_iload_n hx hb dX11_lowestBit_10 rfl (lv_at hl 0 rfl) ?_
    refine x_ineg hM h dX11_lowestBit_11 (fun v_2 h => ?_)
    refine x_iand hM h dX11_lowestBit_12 (fun v_3 h => ?_)
    refine lv_iconst (v := (1 : Int32)) hx hb dX11_lowestBit_13 (by decide) ?_
    refine x_isub hM h dX11_lowestBit_14 (fun v_4 h => ?_)
    refine x_cSi (As := [.int v_4]) (rest := []) hM hG xml_X11_246 xwt_J6_bitCount_0f7a4 h (fun S' v e => c_J6_bitCount_0f7a4 hM.2.2.2.2.2.2.1 e _) ⟨Nat.le_of_ble_eq_true rfl, Nat.le_of_ble_eq_true rfl⟩ rfl hl.1 rfl (Nat.le_of_ble_eq_true rfl) dX11_lowestBit_15 (fun S_5 v_6 H locs h hG => ?_)
    exact x_ri hM hG hr hlk rfl (k0 _ (Option.some.inj h).symm) dX11_lowestBit_18
  · refine lv_bipush (v := (-2 : Int32)) hx hb dX11_lowestBit_4 (by decide) ?_
    refine lv_goto (tgt := 18) hx hb dX11_lowestBit_6 (by decide) ?_
    exact x_ri hM hG hr hlk rfl (k0 _ (Option.some.inj h).symm) dX11_lowestBit_18
set_option maxHeartbeats 4000000 in
set_option maxRecDepth 100000 in
theorem c_X11_lowestBit {l : Launch} {D : va_G} {cy : Nat → ClassId} {a z : Nat → Nat} (hI : xI xtb a) {S : xSt} {x0 : Int32} {S' : xSt} {v' : Int32} (hf : f_X11_lowestBit S x0 = some (S', v')) (sz : Nat) : Met l yX11_lowestBit (Cond.code yX11_lowestBit cX11_lowestBit 1 (some .int) :: xTB) ({ frames := 1, cells := 0, slots := 0, locals := 20 } : Room) (va_Pc [.int x0] (xPre D cy xtb a z S sz)) (xQi D cy xtb a S' v' sz) 0 0 (xA xtb a sz) := by
  refine Met.ofW (cc := cX11_lowestBit) (maxL := 1) (ret := (some .int)) (by decide) rfl ?_
  intro p e s m args below meth c s₁ B hml hv
  obtain ⟨rfl, hsz, hP, hK, hE⟩ := hv
  subst hsz
  have hl := lv_entry ([.int x0]) (n := 1) (Nat.le_of_ble_eq_true rfl)
  rw [lg_entry_eq]
  generalize (lg_sl ([.int x0]) ++ List.replicate (1 - (lg_sl ([.int x0])).length) Slot.unset).toArray = ls at hl ⊢
  have hl : lv_has ls 1 [(0, .int x0)] := hl
  exact w_X11_lowestBit_0 ⟨B.exec, B.bytes, hml, findClass_of_methodNamed B.named, fun w hw => atoms_spec (ws := Cond.code yX11_lowestBit cX11_lowestBit 1 (some .int) :: xTB) B.pre w (List.mem_cons_of_mem _ hw), hK, hI, hE⟩ B.returns B.notSynchronized hf (fun t0 e => e.symm) ⟨hP, va_S.rf⟩ (lv_sub hl [0] rfl)
set_option maxHeartbeats 4000000 in
set_option maxRecDepth 100000 in
theorem w_X7_place_20 {d : Nat} {g_X7_place : xSt → Int32 → Int32 → Int32 → Option (xSt × Unit)} (hg_X7_place : ∀ (S : xSt) (x1 : Int32) (x2 : Int32) (x3 : Int32) (S' : xSt) (v' : Unit), g_X7_place S x1 x2 x3 = some (S', v') → ∀ sz : Nat, Met l yX7_place (Cond.code yX7_place cX7_place 6 none :: xTB) ({ frames := 2 + d, cells := 0, slots := 0, locals := 40 + d * 25 } : Room) (va_Pc [.ref (a 87), .int x1, .int x2, .int x3] (xPre D cy xtb a z S sz)) (xQv D cy xtb a S' v' sz) 0 0 (xA xtb a sz)) {x2 : Int32} (hM : xM p c cX7_place m s args RX7 6 D cy xtb a z) (hr : meth.sig.returnType = none) (hlk : meth.locks = false) {S' : xSt} {v' : Unit} {S : xSt} {q : (xSt × Unit)} (h : f_X7_place_20 g_X7_place x2 S = some q) (k0 : ∀ t0 : xSt × Unit, q = t0 → t0 = (S', v')) {H : Heap} {locs : List Loc} (hG : xG D cy xtb a S s H locs) {ls : Array Slot} (hl : lv_has ls 6 [(0, .ref (a 87)), (2, .int x2)]) : W p l e ({ frames := 2 + (d + 1), cells := 0, slots := 0, locals := 40 + (d + 1) * 25 } : Room) s m args below meth c H locs 0 0 (MQ below (xQv D cy xtb a S' v' s.heap.size) args s 0 0 (xA xtb a s.heap.size)) (F0 m 20 ls []) := by
  have hx := hM.1
  have hb := hM.2.1
  refine lv_aload_n hx hb dX7_place_20 rfl (lv_at hl 0 rfl) ?_
  refine lv_iload_n hx hb dX7_place_21 rfl (lv_at hl 1 rfl) ?_
  refine x_pi hM hG xfl_X7_32 xfp_X7_2 xct_87 (by decide) rfl rfl rfl h dX7_place_22 (fun S_1 H locs h hG => ?_)
  exact x_rv hM hG hr hlk (k0 _ (Option.some.inj h).symm) dX7_place_25
set_option maxHeartbeats 4000000 in
set_option maxRecDepth 100000 in
theorem w_X7_place_86 {d : Nat} {g_X7_place : xSt → Int32 → Int32 → Int32 → Option (xSt × Unit)} (hg_X7_place : ∀ (S : xSt) (x1 : Int32) (x2 : Int32) (x3 : Int32) (S' : xSt) (v' : Unit), g_X7_place S x1 x2 x3 = some (S', v') → ∀ sz : Nat, Met l yX7_place (Cond.code yX7_place cX7_place 6 none :: xTB) ({ frames := 2 + d, cells := 0, slots := 0, locals := 40 + d * 25 } : Room) (va_Pc [.ref (a 87), .int x1, .int x2, .int x3] (xPre D cy xtb a z S sz)) (xQv D cy xtb a S' v' sz) 0 0 (xA xtb a sz)) {x1 : Int32} {x2 : Int32} {x3 : Int32} {x4 : Int32} {x5 : Int32} (hM : xM p c cX7_place m s args RX7 6 D cy xtb a z) (hr : meth.sig.returnType = none) (hlk : meth.locks = false) {S' : xSt} {v' : Unit} {S : xSt} {q : ((xSt × Int32) ⊕ (xSt × Unit))} (h : f_X7_place_86 g_X7_place x1 x2 x3 x4 x5 S = some q) (k0 : ∀ t0 : xSt × Unit, q = (.inr t0) → t0 = (S', v')) (k1 : ∀ (S : xSt) (x5 : Int32), q = (.inl (S, x5)) → ∀ (H : Heap) (locs : List Loc) (ls : Array Slot), xG D cy xtb a S s H locs → lv_has ls 6 [(0, .ref (a 87)), (1, .int x1), (2, .int x2), (3, .int x3), (4, .int x4), (5, .int x5)] → W p l e ({ frames := 2 + (d + 1), cells := 0, slots := 0, locals := 40 + (d + 1) * 25 } : Room) s m args below meth c H locs 0 0 (MQ below (xQv D cy xtb a S' v' s.heap.size) args s 0 0 (xA xtb a s.heap.size)) (F0 m 40 ls [])) {H : Heap} {locs : List Loc} (hG : xG D cy xtb a S s H locs) {ls : Array Slot} (hl : lv_has ls 6 [(0, .ref (a 87)), (1, .int x1), (2, .int x2), (3, .int x3), (4, .int x4), (5, .int x5)]) : W p l e ({ frames := 2 + (d + 1), cells := 0, slots := 0, locals := 40 + (d + 1) * 25 } : Room) s m args below meth c H locs 0 0 (MQ below (xQv D cy xtb a S' v' s.heap.size) args s 0 0 (xA xtb a s.heap.size)) (F0 m 86 ls []) := by
  have hx := hM.1
  have hb := hM.2.1
  refine x_iinc hM (fun v => [(5, .int v), (0, .ref (a 87)), (1, .int x1), (2, .int x2), (3, .int x3), (4, .int x4)]) h dX7_place_86 hl (k := 5) rfl (by decide) (by decide) (fun _ => rfl) (fun v_1 ls h hl => ?_)
  refine lv_goto (tgt := 40) hx hb dX7_place_89 (by decide) ?_
  exact k1 _ _ (Option.some.inj h).symm _ _ _ hG (lv_sub hl [1, 2, 3, 4, 5, 0] rfl)
set_option maxHeartbeats 4000000 in
set_option maxRecDepth 100000 in
theorem w_X7_place_40 {d : Nat} {g_X7_place : xSt → Int32 → Int32 → Int32 → Option (xSt × Unit)} (hg_X7_place : ∀ (S : xSt) (x1 : Int32) (x2 : Int32) (x3 : Int32) (S' : xSt) (v' : Unit), g_X7_place S x1 x2 x3 = some (S', v') → ∀ sz : Nat, Met l yX7_place (Cond.code yX7_place cX7_place 6 none :: xTB) ({ frames := 2 + d, cells := 0, slots := 0, locals := 40 + d * 25 } : Room) (va_Pc [.ref (a 87), .int x1, .int x2, .int x3] (xPre D cy xtb a z S sz)) (xQv D cy xtb a S' v' sz) 0 0 (xA xtb a sz)) {x1 : Int32} {x2 : Int32} {x3 : Int32} {x4 : Int32} {x5 : Int32} (hM : xM p c cX7_place m s args RX7 6 D cy xtb a z) (hr : meth.sig.returnType = none) (hlk : meth.locks = false) {S' : xSt} {v' : Unit} {S : xSt} {q : ((xSt × Int32) ⊕ (xSt × Unit))} (h : f_X7_place_40 g_X7_place x1 x2 x3 x4 S x5 = some q) (k0 : ∀ t0 : xSt × Unit, q = (.inr t0) → t0 = (S', v')) (k1 : ∀ (S : xSt) (x5 : Int32), q = (.inl (S, x5)) → ∀ (H : Heap) (locs : List Loc) (ls : Array Slot), xG D cy xtb a S s H locs → lv_has ls 6 [(0, .ref (a 87)), (1, .int x1), (2, .int x2), (3, .int x3), (4, .int x4), (5, .int x5)] → W p l e ({ frames := 2 + (d + 1), cells := 0, slots := 0, locals := 40 + (d + 1) * 25 } : Room) s m args below meth c H locs 0 0 (MQ below (xQv D cy xtb a S' v' s.heap.size) args s 0 0 (xA xtb a s.heap.size)) (F0 m 40 ls [])) {H : Heap} {locs : List Loc} (hG : xG D cy xtb a S s H locs) {ls : Array Slot} (hl : lv_has ls 6 [(0, .ref (a 87)), (1, .int x1), (2, .int x2), (3, .int x3), (4, .int x4), (5, .int x5)]) : W p l e ({ frames := 2 + (d + 1), cells := 0, slots := 0, locals := 40 + (d + 1) * 25 } : Room) s m args below meth c H locs 0 0 (MQ below (xQv D cy xtb a S' v' s.heap.size) args s 0 0 (xA xtb a s.heap.size)) (F0 m 40 ls []) := by
  have hx := hM.1
  have hb := hM.2.1
  refine lv_iload hx hb dX7_place_40 (lv_at hl 5 rfl) ?_
  refine lv_bipush (v := (30 : Int32)) hx hb dX7_place_42 (by decide) ?_
  refine x_icmp_ge (tgt := 92) hM h dX7_place_44 (by decide) (fun c_1 h => ?_) (fun c_1 h => ?_)
  · exact x_rv hM hG hr hlk (k0 _ (Option.some.inj h).symm) dX7_place_92
  · refine lv_aload_n hx hb dX7_place_47 rfl (lv_at hl 0 rfl) ?_
    refine x_gr (r := 88) hM hG xfl_X7_9 xct_87 (by decide) rfl dX7_place_48 ?_
    refine lv_iload hx hb dX7_place_51 (lv_at hl 5 rfl) ?_
    refine x_iald hM hG xct_88 h dX7_place_53 (fun v_2 h => ?_)
    refine lv_iload hx hb dX7_place_54 (lv_at hl 4 rfl) ?_
    refine x_ishr hM h dX7_place_56 (fun v_3 h => ?_)
    refine lv_iconst (v := (1 : Int32)) hx hb dX7_place_57 (by decide) ?_
    refine x_iand hM h dX7_place_58 (fun v_4 h => ?_)
    refine x_if_eq (tgt := 86) hM h dX7_place_59 (by decide) (fun c_5 h => ?_) (fun c_5 h => ?_)
    · exact w_X7_place_86 hg_X7_place hM hr hlk h (fun t0 e => k0 t0 e) (fun S x5 e => k1 S x5 e) hG (lv_sub hl [0, 1, 2, 3, 4, 5] rfl)
    · refine lv_aload_n hx hb dX7_place_62 rfl (lv_at hl 0 rfl) ?_
      refine lv_iload_n hx hb dX7_place_63 rfl (lv_at hl 1 rfl) ?_
      refine lv_aload_n hx hb dX7_place_64 rfl (lv_at hl 0 rfl) ?_
      refine x_gr (r := 88) hM hG xfl_X7_9 xct_87 (by decide) rfl dX7_place_65 ?_
      refine lv_iload hx hb dX7_place_68 (lv_at hl 5 rfl) ?_
      refine x_iald hM hG xct_88 h dX7_place_70 (fun v_6 h => ?_)
      refine lv_iconst (v := (-1 : Int32)) hx hb dX7_place_71 (by decide) ?_
      refine x_ixor hM h dX7_place_72 (fun v_7 h => ?_)
      refine x_iand hM h dX7_place_73 (fun v_8 h => ?_)
      refine lv_iload_n hx hb dX7_place_74 rfl (lv_at hl 2 rfl) ?_
      refine lv_iconst (v := (1 : Int32)) hx hb dX7_place_75 (by decide) ?_
      refine lv_iload hx hb dX7_place_76 (lv_at hl 5 rfl) ?_
      refine x_ishl hM h dX7_place_78 (fun v_9 h => ?_)
      refine x_ior hM h dX7_place_79 (fun v_10 h => ?_)
      refine lv_iload_n hx hb dX7_place_80 rfl (lv_at hl 3 rfl) ?_
      refine lv_iconst (v := (1 : Int32)) hx hb dX7_place_81 (by decide) ?_
      refine x_isub hM h dX7_place_82 (fun v_11 h => ?_)
      refine x_cVv (As := [.int v_8, .int v_10, .int v_11]) (rest := []) hM hG xml_X7_36 xwi_X7_place xws_X7_place xct_87 (by decide) rfl h (fun S' v e => hg_X7_place _ _ _ _ _ _ e _) ⟨by show _ ≤ 2 + (d + 1); omega, by show _ ≤ 40 + (d + 1) * 25; omega⟩ rfl hl.1 rfl (Nat.le_of_ble_eq_true rfl) dX7_place_83 (fun S_12 v_13 H locs h hG => ?_)
      exact w_X7_place_86 hg_X7_place hM hr hlk h (fun t0 e => k0 t0 e) (fun S x5 e => k1 S x5 e) hG (lv_sub hl [0, 1, 2, 3, 4, 5] rfl)
theorem wl_X7_place_40 {d : Nat} {g_X7_place : xSt → Int32 → Int32 → Int32 → Option (xSt × Unit)} (hg_X7_place : ∀ (S : xSt) (x1 : Int32) (x2 : Int32) (x3 : Int32) (S' : xSt) (v' : Unit), g_X7_place S x1 x2 x3 = some (S', v') → ∀ sz : Nat, Met l yX7_place (Cond.code yX7_place cX7_place 6 none :: xTB) ({ frames := 2 + d, cells := 0, slots := 0, locals := 40 + d * 25 } : Room) (va_Pc [.ref (a 87), .int x1, .int x2, .int x3] (xPre D cy xtb a z S sz)) (xQv D cy xtb a S' v' sz) 0 0 (xA xtb a sz)) {x1 : Int32} {x2 : Int32} {x3 : Int32} {x4 : Int32} (hM : xM p c cX7_place m s args RX7 6 D cy xtb a z) (hr : meth.sig.returnType = none) (hlk : meth.locks = false) {S' : xSt} {v' : Unit} {q : (xSt × Unit)} (k0 : ∀ t0 : xSt × Unit, q = t0 → t0 = (S', v')) (n : Nat) : ∀ (S : xSt) (x5 : Int32) (H : Heap) (locs : List Loc) (ls : Array Slot), xlp (fun q : (xSt × Int32) => f_X7_place_40 g_X7_place x1 x2 x3 x4 q.1 q.2) n (S, x5) = some q → xG D cy xtb a S s H locs → lv_has ls 6 [(0, .ref (a 87)), (1, .int x1), (2, .int x2), (3, .int x3), (4, .int x4), (5, .int x5)] → W p l e ({ frames := 2 + (d + 1), cells := 0, slots := 0, locals := 40 + (d + 1) * 25 } : Room) s m args below meth c H locs 0 0 (MQ below (xQv D cy xtb a S' v' s.heap.size) args s 0 0 (xA xtb a s.heap.size)) (F0 m 40 ls []) := by
  induction n with
  | zero => intro S x5 H locs ls h; exact (xlp_0 h).elim
  | succ n ih =>
    intro S x5 H locs ls h hG hl
    obtain ⟨q1, hq, hc, he⟩ := xlp_at h
    exact w_X7_place_40 hg_X7_place hM hr hlk (q := q1) hq (fun t0 e => k0 t0 (he _ e).symm) (fun S x5 e H locs ls hG hl => ih S x5 H locs ls (hc _ e) hG hl) hG hl
set_option maxHeartbeats 4000000 in
set_option maxRecDepth 100000 in
theorem w_X7_place_0 {d : Nat} {g_X7_place : xSt → Int32 → Int32 → Int32 → Option (xSt × Unit)} (hg_X7_place : ∀ (S : xSt) (x1 : Int32) (x2 : Int32) (x3 : Int32) (S' : xSt) (v' : Unit), g_X7_place S x1 x2 x3 = some (S', v') → ∀ sz : Nat, Met l yX7_place (Cond.code yX7_place cX7_place 6 none :: xTB) ({ frames := 2 + d, cells := 0, slots := 0, locals := 40 + d * 25 } : Room) (va_Pc [.ref (a 87), .int x1, .int x2, .int x3] (xPre D cy xtb a z S sz)) (xQv D cy xtb a S' v' sz) 0 0 (xA xtb a sz)) {x1 : Int32} {x2 : Int32} {x3 : Int32} (hM : xM p c cX7_place m s args RX7 6 D cy xtb a z) (hr : meth.sig.returnType = none) (hlk : meth.locks = false) {S' : xSt} {v' : Unit} {S : xSt} {q : (xSt × Unit)} (h : f_X7_place_0 g_X7_place x1 x2 x3 S = some q) (k0 : ∀ t0 : xSt × Unit, q = t0 → t0 = (S', v')) {H : Heap} {locs : List Loc} (hG : xG D cy xtb a S s H locs) {ls : Array Slot} (hl : lv_has ls 6 [(0, .ref (a 87)), (1, .int x1), (2, .int x2), (3, .int x3)]) : W p l e ({ frames := 2 + (d + 1), cells := 0, slots := 0, locals := 40 + (d + 1) * 25 } : Room) s m args below meth c H locs 0 0 (MQ below (xQv D cy xtb a S' v' s.heap.size) args s 0 0 (xA xtb a s.heap.size)) (F0 m 0 ls []) := by
  have hx := hM.1
  have hb := hM.2.1
  refine lv_iload_n hx hb dX7_place_0 rfl (lv_at hl 1 rfl) ?_
  refine x_if_ne (tgt := 26) hM h dX7_place_1 (by decide) (fun c_1 h => ?_) (fun c_1 h => ?_)
  · refine lv_iload_n hx hb dX7_place_26 rfl (lv_at hl 3 rfl) ?_
    refine x_if_gt (tgt := 31) hM h dX7_place_27 (by decide) (fun c_2 h => ?_) (fun c_2 h => ?_)
    · refine lv_iload_n hx hb dX7_place_31 rfl (lv_at hl 1 rfl) ?_
      refine x_cSNi (As := [.int x1]) (rest := []) hM hG ⟨xwc_X11_lowestBit, xini_X11, hM.2.2.2.2.2.2.2.1.1, by decide +kernel, by decide +kernel, (by decide +kernel : (parseMethodDescriptor yX11_lowestBit.desc).map (fun d => d.parameters.length) = some 1)⟩ xwt_X11_lowestBit h (fun S' v e => c_X11_lowestBit hM.2.2.2.2.2.2.1 e _) ⟨by show _ ≤ 2 + (d + 1); omega, by show _ ≤ 40 + (d + 1) * 25; omega⟩ rfl hl.1 rfl (Nat.le_of_ble_eq_true rfl) dX7_place_32 (fun S_3 v_4 H locs h hG => ?_)
      refine lv_istore (lv' := [(4, .int v_4), (0, .ref (a 87)), (1, .int x1), (2, .int x2), (3, .int x3)]) hx hb dX7_place_35 hl (by decide) rfl (fun ls hl => ?_)
      refine lv_iconst (v := (0 : Int32)) hx hb dX7_place_37 (by decide) ?_
      refine lv_istore (lv' := [(5, .int (0 : Int32)), (4, .int v_4), (0, .ref (a 87)), (1, .int x1), (2, .int x2), (3, .int x3)]) hx hb dX7_place_38 hl (by decide) rfl (fun ls hl => ?_)
      exact wl_X7_place_40 hg_X7_place hM hr hlk (fun t0 e => k0 t0 e) 5000 _ _ _ _ _ h hG (lv_sub hl [2, 3, 4, 5, 1, 0] rfl)
    · exact x_rv hM hG hr hlk (k0 _ (Option.some.inj h).symm) dX7_place_30
  · refine lv_aload_n hx hb dX7_place_4 rfl (lv_at hl 0 rfl) ?_
    refine x_gi hM hG xfl_X7_32 xct_87 (by decide) rfl h dX7_place_5 (fun v_5 h => ?_)
    refine lv_iconst (v := (-1 : Int32)) hx hb dX7_place_8 (by decide) ?_
    refine x_icmp_eq (tgt := 20) hM h dX7_place_9 (by decide) (fun c_6 h => ?_) (fun c_6 h => ?_)
    · exact w_X7_place_20 hg_X7_place hM hr hlk h (fun t0 e => k0 t0 e) hG (lv_sub hl [0, 2] rfl)
    · refine lv_iload_n hx hb dX7_place_12 rfl (lv_at hl 2 rfl) ?_
      refine lv_aload_n hx hb dX7_place_13 rfl (lv_at hl 0 rfl) ?_
      refine x_gi hM hG xfl_X7_32 xct_87 (by decide) rfl h dX7_place_14 (fun v_7 h => ?_)
      refine x_icmp_ge (tgt := 25) hM h dX7_place_17 (by decide) (fun c_8 h => ?_) (fun c_8 h => ?_)
      · exact x_rv hM hG hr hlk (k0 _ (Option.some.inj h).symm) dX7_place_25
      · exact w_X7_place_20 hg_X7_place hM hr hlk h (fun t0 e => k0 t0 e) hG (lv_sub hl [0, 2] rfl)
set_option maxHeartbeats 4000000 in
set_option maxRecDepth 100000 in
theorem cr_F_X7_place {l : Launch} {D : va_G} {cy : Nat → ClassId} {a z : Nat → Nat} (hI : xI xtb a) : ∀ d : Nat, (∀ (S : xSt) (x1 : Int32) (x2 : Int32) (x3 : Int32) (S' : xSt) (v' : Unit), f_X7_place d S x1 x2 x3 = some (S', v') → ∀ sz : Nat, Met l yX7_place (Cond.code yX7_place cX7_place 6 none :: xTB) ({ frames := 2 + d, cells := 0, slots := 0, locals := 40 + d * 25 } : Room) (va_Pc [.ref (a 87), .int x1, .int x2, .int x3] (xPre D cy xtb a z S sz)) (xQv D cy xtb a S' v' sz) 0 0 (xA xtb a sz)) := by
  intro d
  induction d with
  | zero => exact (fun _ _ _ _ _ _ h => by cases h)
  | succ d ih =>
    have ih0 := ih
    intro S x1 x2 x3 S' v' hf sz
    refine Met.ofW (cc := cX7_place) (maxL := 6) (ret := none) (by decide) rfl ?_
    intro p e s m args below meth c s₁ B hml hv
    obtain ⟨rfl, hsz, hP, hK, hE⟩ := hv
    subst hsz
    have hl := lv_entry ([.ref (a 87), .int x1, .int x2, .int x3]) (n := 6) (Nat.le_of_ble_eq_true rfl)
    rw [lg_entry_eq]
    generalize (lg_sl ([.ref (a 87), .int x1, .int x2, .int x3]) ++ List.replicate (6 - (lg_sl ([.ref (a 87), .int x1, .int x2, .int x3])).length) Slot.unset).toArray = ls at hl ⊢
    have hl : lv_has ls 6 [(0, .ref (a 87)), (1, .int x1), (2, .int x2), (3, .int x3)] := hl
    exact w_X7_place_0 ih0 ⟨B.exec, B.bytes, hml, findClass_of_methodNamed B.named, fun w hw => atoms_spec (ws := Cond.code yX7_place cX7_place 6 none :: xTB) B.pre w (List.mem_cons_of_mem _ hw), hK, hI, hE⟩ B.returns B.notSynchronized hf (fun t0 e => e.symm) ⟨hP, va_S.rf⟩ (lv_sub hl [0, 1, 2, 3] rfl)
theorem c_X7_place {l : Launch} {D : va_G} {cy : Nat → ClassId} {a z : Nat → Nat} (hI : xI xtb a) (d : Nat) {S : xSt} {x1 : Int32} {x2 : Int32} {x3 : Int32} {S' : xSt} {v' : Unit} (hf : f_X7_place d S x1 x2 x3 = some (S', v')) (sz : Nat) : Met l yX7_place (Cond.code yX7_place cX7_place 6 none :: xTB) ({ frames := 2 + d, cells := 0, slots := 0, locals := 40 + d * 25 } : Room) (va_Pc [.ref (a 87), .int x1, .int x2, .int x3] (xPre D cy xtb a z S sz)) (xQv D cy xtb a S' v' sz) 0 0 (xA xtb a sz) := (cr_F_X7_place hI d) _ _ _ _ _ _ hf sz
set_option maxHeartbeats 4000000 in
set_option maxRecDepth 100000 in
theorem w_X7_fewest_69 {x1 : Int32} {x2 : Int32} {x3 : Int32} (hM : xM p c cX7_fewest m s args RX7 4 D cy xtb a z) (hr : meth.sig.returnType = (some .int)) (hlk : meth.locks = false) {S' : xSt} {v' : Int32} {S : xSt} {q : ((xSt × Int32 × Int32) ⊕ (xSt × Int32))} (h : f_X7_fewest_69 x1 x2 x3 S = some q) (k0 : ∀ t0 : xSt × Int32, q = (.inr t0) → t0 = (S', v')) (k1 : ∀ (S : xSt) (x2 : Int32) (x3 : Int32), q = (.inl (S, x2, x3)) → ∀ (H : Heap) (locs : List Loc) (ls : Array Slot), xG D cy xtb a S s H locs → lv_has ls 4 [(0, .ref (a 87)), (1, .int x1), (2, .int x2), (3, .int x3)] → W p l e ({ frames := 9, cells := 0, slots := 0, locals := 215 } : Room) s m args below meth c H locs 0 0 (MQ below (xQi D cy xtb a S' v' s.heap.size) args s 0 0 (xA xtb a s.heap.size)) (F0 m 4 ls [])) {H : Heap} {locs : List Loc} (hG : xG D cy xtb a S s H locs) {ls : Array Slot} (hl : lv_has ls 4 [(0, .ref (a 87)), (1, .int x1), (2, .int x2), (3, .int x3)]) : W p l e ({ frames := 9, cells := 0, slots := 0, locals := 215 } : Room) s m args below meth c H locs 0 0 (MQ below (xQi D cy xtb a S' v' s.heap.size) args s 0 0 (xA xtb a s.heap.size)) (F0 m 69 ls []) := by
  have hx := hM.1
  have hb := hM.2.1
  refine x_iinc hM (fun v => [(3, .int v), (0, .ref (a 87)), (1, .int x1), (2, .int x2)]) h dX7_fewest_69 hl (k := 3) rfl (by decide) (by decide) (fun _ => rfl) (fun v_1 ls h hl => ?_)
  refine lv_goto (tgt := 4) hx hb dX7_fewest_72 (by decide) ?_
  exact k1 _ _ _ (Option.some.inj h).symm _ _ _ hG (lv_sub hl [1, 2, 3, 0] rfl)
set_option maxHeartbeats 4000000 in
set_option maxRecDepth 100000 in
theorem w_X7_fewest_38 {x1 : Int32} {x2 : Int32} {x3 : Int32} {y1 : Int32} {y2 : Int32} (hM : xM p c cX7_fewest m s args RX7 4 D cy xtb a z) (hr : meth.sig.returnType = (some .int)) (hlk : meth.locks = false) {S' : xSt} {v' : Int32} {S : xSt} {q : ((xSt × Int32 × Int32) ⊕ (xSt × Int32))} (h : f_X7_fewest_38 x1 x2 x3 y1 y2 S = some q) (k0 : ∀ t0 : xSt × Int32, q = (.inr t0) → t0 = (S', v')) (k1 : ∀ (S : xSt) (x2 : Int32) (x3 : Int32), q = (.inl (S, x2, x3)) → ∀ (H : Heap) (locs : List Loc) (ls : Array Slot), xG D cy xtb a S s H locs → lv_has ls 4 [(0, .ref (a 87)), (1, .int x1), (2, .int x2), (3, .int x3)] → W p l e ({ frames := 9, cells := 0, slots := 0, locals := 215 } : Room) s m args below meth c H locs 0 0 (MQ below (xQi D cy xtb a S' v' s.heap.size) args s 0 0 (xA xtb a s.heap.size)) (F0 m 4 ls [])) {H : Heap} {locs : List Loc} (hG : xG D cy xtb a S s H locs) {ls : Array Slot} (hl : lv_has ls 4 [(0, .ref (a 87)), (1, .int x1), (2, .int x2), (3, .int x3)]) : W p l e ({ frames := 9, cells := 0, slots := 0, locals := 215 } : Room) s m args below meth c H locs 0 0 (MQ below (xQi D cy xtb a S' v' s.heap.size) args s 0 0 (xA xtb a s.heap.size)) (F0 m 38 ls [.int y2, .int y1, .ref (a 88)]) := by
  have hx := hM.1
  have hb := hM.2.1
  refine x_iast hM hG xct_88 h dX7_fewest_38 (fun S_1 H locs h hG => ?_)
  refine lv_aload_n hx hb dX7_fewest_39 rfl (lv_at hl 0 rfl) ?_
  refine x_gr (r := 16) hM hG xfl_X7_15 xct_87 (by decide) rfl dX7_fewest_40 ?_
  refine lv_iload_n hx hb dX7_fewest_43 rfl (lv_at hl 3 rfl) ?_
  refine x_cVi (As := [.int x3]) (rest := []) hM hG xml_X7_19 xwi_X4_has xws_X4_has xih_hay.1 (by decide) rfl h (fun S' v e => c_X4_has hM.2.2.2.2.2.2.1 xih_hay e _) ⟨Nat.le_of_ble_eq_true rfl, Nat.le_of_ble_eq_true rfl⟩ rfl hl.1 rfl (Nat.le_of_ble_eq_true rfl) dX7_fewest_44 (fun S_2 v_3 H locs h hG => ?_)
  refine x_if_eq (tgt := 69) hM h dX7_fewest_47 (by decide) (fun c_4 h => ?_) (fun c_4 h => ?_)
  · exact w_X7_fewest_69 hM hr hlk h (fun t0 e => k0 t0 e) (fun S x2 x3 e => k1 S x2 x3 e) hG (lv_sub hl [0, 1, 2, 3] rfl)
  · refine lv_aload_n hx hb dX7_fewest_50 rfl (lv_at hl 0 rfl) ?_
    refine x_gr (r := 16) hM hG xfl_X7_15 xct_87 (by decide) rfl dX7_fewest_51 ?_
    refine x_gr (r := 16 + 4) hM hG xfl_X7_29 xih_hay.1 (by decide) rfl dX7_fewest_54 ?_
    refine lv_iload_n hx hb dX7_fewest_57 rfl (lv_at hl 3 rfl) ?_
    refine x_iald hM hG xih_hay.2.2.2.2.1 h dX7_fewest_58 (fun v_5 h => ?_)
    refine lv_iload_n hx hb dX7_fewest_59 rfl (lv_at hl 1 rfl) ?_
    refine x_icmp_lt (tgt := 69) hM h dX7_fewest_60 (by decide) (fun c_6 h => ?_) (fun c_6 h => ?_)
    · exact w_X7_fewest_69 hM hr hlk h (fun t0 e => k0 t0 e) (fun S x2 x3 e => k1 S x2 x3 e) hG (lv_sub hl [0, 1, 2, 3] rfl)
    · refine lv_iload_n hx hb dX7_fewest_63 rfl (lv_at hl 2 rfl) ?_
      refine lv_iconst (v := (1 : Int32)) hx hb dX7_fewest_64 (by decide) ?_
      refine lv_iload_n hx hb dX7_fewest_65 rfl (lv_at hl 3 rfl) ?_
      refine x_ishl hM h dX7_fewest_66 (fun v_7 h => ?_)
      refine x_ior hM h dX7_fewest_67 (fun v_8 h => ?_)
      refine lv_istore_n (lv' := [(2, .int v_8), (0, .ref (a 87)), (1, .int x1), (3, .int x3)]) hx hb dX7_fewest_68 rfl hl (by decide) rfl (fun ls hl => ?_)
      exact w_X7_fewest_69 hM hr hlk h (fun t0 e => k0 t0 e) (fun S x2 x3 e => k1 S x2 x3 e) hG (lv_sub hl [1, 2, 0, 3] rfl)
set_option maxHeartbeats 4000000 in
set_option maxRecDepth 100000 in
theorem w_X7_fewest_82 {x2 : Int32} {x3 : Int32} (hM : xM p c cX7_fewest m s args RX7 4 D cy xtb a z) (hr : meth.sig.returnType = (some .int)) (hlk : meth.locks = false) {S' : xSt} {v' : Int32} {S : xSt} {q : ((xSt × Int32) ⊕ (xSt × Int32))} (h : f_X7_fewest_82 x2 S x3 = some q) (k0 : ∀ t0 : xSt × Int32, q = (.inr t0) → t0 = (S', v')) (k1 : ∀ (S : xSt) (x3 : Int32), q = (.inl (S, x3)) → ∀ (H : Heap) (locs : List Loc) (ls : Array Slot), xG D cy xtb a S s H locs → lv_has ls 4 [(0, .ref (a 87)), (2, .int x2), (3, .int x3)] → W p l e ({ frames := 9, cells := 0, slots := 0, locals := 215 } : Room) s m args below meth c H locs 0 0 (MQ below (xQi D cy xtb a S' v' s.heap.size) args s 0 0 (xA xtb a s.heap.size)) (F0 m 82 ls [])) {H : Heap} {locs : List Loc} (hG : xG D cy xtb a S s H locs) {ls : Array Slot} (hl : lv_has ls 4 [(0, .ref (a 87)), (2, .int x2), (3, .int x3)]) : W p l e ({ frames := 9, cells := 0, slots := 0, locals := 215 } : Room) s m args below meth c H locs 0 0 (MQ below (xQi D cy xtb a S' v' s.heap.size) args s 0 0 (xA xtb a s.heap.size)) (F0 m 82 ls []) := by
  have hx := hM.1
  have hb := hM.2.1
  refine lv_iload_n hx hb dX7_fewest_82 rfl (lv_at hl 2 rfl) ?_
  refine lv_iconst (v := (4 : Int32)) hx hb dX7_fewest_83 (by decide) ?_
  refine x_icmp_gt (tgt := 110) hM h dX7_fewest_84 (by decide) (fun c_1 h => ?_) (fun c_1 h => ?_)
  · refine lv_bipush (v := (-2 : Int32)) hx hb dX7_fewest_110 (by decide) ?_
    exact x_ri hM hG hr hlk rfl (k0 _ (Option.some.inj h).symm) dX7_fewest_112
  · refine lv_aload_n hx hb dX7_fewest_87 rfl (lv_at hl 0 rfl) ?_
    refine lv_iload_n hx hb dX7_fewest_88 rfl (lv_at hl 1 rfl) ?_
    refine lv_iconst (v := (0 : Int32)) hx hb dX7_fewest_89 (by decide) ?_
    refine lv_iload_n hx hb dX7_fewest_90 rfl (lv_at hl 2 rfl) ?_
    refine x_cVv (As := [.int x2, .int (0 : Int32), .int x3]) (rest := []) hM hG xml_X7_36 xwi_X7_place xws_X7_place xct_87 (by decide) rfl h (fun S' v e => c_X7_place hM.2.2.2.2.2.2.1 6 e _) ⟨Nat.le_of_ble_eq_true rfl, Nat.le_of_ble_eq_true rfl⟩ rfl hl.1 rfl (Nat.le_of_ble_eq_true rfl) dX7_fewest_91 (fun S_2 v_3 H locs h hG => ?_)
    refine lv_aload_n hx hb dX7_fewest_94 rfl (lv_at hl 0 rfl) ?_
    refine x_gi hM hG xfl_X7_32 xct_87 (by decide) rfl h dX7_fewest_95 (fun v_4 h => ?_)
    refine lv_iconst (v := (-1 : Int32)) hx hb dX7_fewest_98 (by decide) ?_
    refine x_icmp_eq (tgt := 104) hM h dX7_fewest_99 (by decide) (fun c_5 h => ?_) (fun c_5 h => ?_)
    · refine x_iinc hM (fun v => [(3, .int v), (0, .ref (a 87)), (2, .int x2)]) h dX7_fewest_104 hl (k := 2) rfl (by decide) (by decide) (fun _ => rfl) (fun v_6 ls h hl => ?_)
      refine lv_goto (tgt := 82) hx hb dX7_fewest_107 (by decide) ?_
      exact k1 _ _ (Option.some.inj h).symm _ _ _ hG (lv_sub hl [1, 2, 0] rfl)
    · refine lv_iload_n hx hb dX7_fewest_102 rfl (lv_at hl 2 rfl) ?_
      exact x_ri hM hG hr hlk rfl (k0 _ (Option.some.inj h).symm) dX7_fewest_103
theorem wl_X7_fewest_82 {x2 : Int32} (hM : xM p c cX7_fewest m s args RX7 4 D cy xtb a z) (hr : meth.sig.returnType = (some .int)) (hlk : meth.locks = false) {S' : xSt} {v' : Int32} {q : (xSt × Int32)} (k0 : ∀ t0 : xSt × Int32, q = t0 → t0 = (S', v')) (n : Nat) : ∀ (S : xSt) (x3 : Int32) (H : Heap) (locs : List Loc) (ls : Array Slot), xlp (fun q : (xSt × Int32) => f_X7_fewest_82 x2 q.1 q.2) n (S, x3) = some q → xG D cy xtb a S s H locs → lv_has ls 4 [(0, .ref (a 87)), (2, .int x2), (3, .int x3)] → W p l e ({ frames := 9, cells := 0, slots := 0, locals := 215 } : Room) s m args below meth c H locs 0 0 (MQ below (xQi D cy xtb a S' v' s.heap.size) args s 0 0 (xA xtb a s.heap.size)) (F0 m 82 ls []) := by
  induction n with
  | zero => intro S x3 H locs ls h; exact (xlp_0 h).elim
  | succ n ih =>
    intro S x3 H locs ls h hG hl
    obtain ⟨q1, hq, hc, he⟩ := xlp_at h
    exact w_X7_fewest_82 hM hr hlk (q := q1) hq (fun t0 e => k0 t0 (he _ e).symm) (fun S x3 e H locs ls hG hl => ih S x3 H locs ls (hc _ e) hG hl) hG hl
set_option maxHeartbeats 4000000 in
set_option maxRecDepth 100000 in
theorem w_X7_fewest_75 {x2 : Int32} (hM : xM p c cX7_fewest m s args RX7 4 D cy xtb a z) (hr : meth.sig.returnType = (some .int)) (hlk : meth.locks = false) {S' : xSt} {v' : Int32} {S : xSt} {q : (xSt × Int32)} (h : f_X7_fewest_75 x2 S = some q) (k0 : ∀ t0 : xSt × Int32, q = t0 → t0 = (S', v')) {H : Heap} {locs : List Loc} (hG : xG D cy xtb a S s H locs) {ls : Array Slot} (hl : lv_has ls 4 [(0, .ref (a 87)), (2, .int x2)]) : W p l e ({ frames := 9, cells := 0, slots := 0, locals := 215 } : Room) s m args below meth c H locs 0 0 (MQ below (xQi D cy xtb a S' v' s.heap.size) args s 0 0 (xA xtb a s.heap.size)) (F0 m 75 ls []) := by
  have hx := hM.1
  have hb := hM.2.1
  refine lv_aload_n hx hb dX7_fewest_75 rfl (lv_at hl 0 rfl) ?_
  refine lv_iconst (v := (-1 : Int32)) hx hb dX7_fewest_76 (by decide) ?_
  refine x_pi hM hG xfl_X7_32 xfp_X7_2 xct_87 (by decide) rfl rfl rfl h dX7_fewest_77 (fun S_1 H locs h hG => ?_)
  refine lv_iconst (v := (0 : Int32)) hx hb dX7_fewest_80 (by decide) ?_
  refine lv_istore_n (lv' := [(3, .int (0 : Int32)), (0, .ref (a 87)), (2, .int x2)]) hx hb dX7_fewest_81 rfl hl (by decide) rfl (fun ls hl => ?_)
  exact wl_X7_fewest_82 hM hr hlk (fun t0 e => k0 t0 e) 5000 _ _ _ _ _ h hG (lv_sub hl [1, 2, 0] rfl)
set_option maxHeartbeats 4000000 in
set_option maxRecDepth 100000 in
theorem w_X7_fewest_4 {x1 : Int32} {x2 : Int32} {x3 : Int32} (hM : xM p c cX7_fewest m s args RX7 4 D cy xtb a z) (hr : meth.sig.returnType = (some .int)) (hlk : meth.locks = false) {S' : xSt} {v' : Int32} {S : xSt} {q : ((xSt × Int32 × Int32) ⊕ (xSt × Int32))} (h : f_X7_fewest_4 x1 S x2 x3 = some q) (k0 : ∀ t0 : xSt × Int32, q = (.inr t0) → t0 = (S', v')) (k1 : ∀ (S : xSt) (x2 : Int32) (x3 : Int32), q = (.inl (S, x2, x3)) → ∀ (H : Heap) (locs : List Loc) (ls : Array Slot), xG D cy xtb a S s H locs → lv_has ls 4 [(0, .ref (a 87)), (1, .int x1), (2, .int x2), (3, .int x3)] → W p l e ({ frames := 9, cells := 0, slots := 0, locals := 215 } : Room) s m args below meth c H locs 0 0 (MQ below (xQi D cy xtb a S' v' s.heap.size) args s 0 0 (xA xtb a s.heap.size)) (F0 m 4 ls [])) {H : Heap} {locs : List Loc} (hG : xG D cy xtb a S s H locs) {ls : Array Slot} (hl : lv_has ls 4 [(0, .ref (a 87)), (1, .int x1), (2, .int x2), (3, .int x3)]) : W p l e ({ frames := 9, cells := 0, slots := 0, locals := 215 } : Room) s m args below meth c H locs 0 0 (MQ below (xQi D cy xtb a S' v' s.heap.size) args s 0 0 (xA xtb a s.heap.size)) (F0 m 4 ls []) := by
  have hx := hM.1
  have hb := hM.2.1
  refine lv_iload_n hx hb dX7_fewest_4 rfl (lv_at hl 3 rfl) ?_
  refine lv_bipush (v := (30 : Int32)) hx hb dX7_fewest_5 (by decide) ?_
  refine x_icmp_ge (tgt := 75) hM h dX7_fewest_7 (by decide) (fun c_1 h => ?_) (fun c_1 h => ?_)
  · obtain ⟨q1, h, e1⟩ := xmr_at h
    exact w_X7_fewest_75 hM hr hlk h (fun t0 e => k0 t0 (by rw [e1, e])) hG (lv_sub hl [0, 2] rfl)
  · refine lv_aload_n hx hb dX7_fewest_10 rfl (lv_at hl 0 rfl) ?_
    refine x_gr (r := 88) hM hG xfl_X7_9 xct_87 (by decide) rfl dX7_fewest_11 ?_
    refine lv_iload_n hx hb dX7_fewest_14 rfl (lv_at hl 3 rfl) ?_
    refine lv_aload_n hx hb dX7_fewest_15 rfl (lv_at hl 0 rfl) ?_
    refine x_gr (r := 16) hM hG xfl_X7_15 xct_87 (by decide) rfl dX7_fewest_16 ?_
    refine lv_iload_n hx hb dX7_fewest_19 rfl (lv_at hl 3 rfl) ?_
    refine x_cVi (As := [.int x3]) (rest := [.int x3, .ref (a 88)]) hM hG xml_X7_19 xwi_X4_has xws_X4_has xih_hay.1 (by decide) rfl h (fun S' v e => c_X4_has hM.2.2.2.2.2.2.1 xih_hay e _) ⟨Nat.le_of_ble_eq_true rfl, Nat.le_of_ble_eq_true rfl⟩ rfl hl.1 rfl (Nat.le_of_ble_eq_true rfl) dX7_fewest_20 (fun S_2 v_3 H locs h hG => ?_)
    refine x_if_eq (tgt := 37) hM h dX7_fewest_23 (by decide) (fun c_4 h => ?_) (fun c_4 h => ?_)
    · refine lv_iconst (v := (0 : Int32)) hx hb dX7_fewest_37 (by decide) ?_
      exact w_X7_fewest_38 hM hr hlk h (fun t0 e => k0 t0 e) (fun S x2 x3 e => k1 S x2 x3 e) hG (lv_sub hl [0, 1, 2, 3] rfl)
    · refine lv_aload_n hx hb dX7_fewest_26 rfl (lv_at hl 0 rfl) ?_
      refine x_gr (r := 16) hM hG xfl_X7_15 xct_87 (by decide) rfl dX7_fewest_27 ?_
      refine lv_iload_n hx hb dX7_fewest_30 rfl (lv_at hl 3 rfl) ?_
      refine x_cVi (As := [.int x3]) (rest := [.int x3, .ref (a 88)]) hM hG xml_X7_25 xwi_X4_around xws_X4_around xih_hay.1 (by decide) rfl h (fun S' v e => c_X4_around hM.2.2.2.2.2.2.1 xih_hay e _) ⟨Nat.le_of_ble_eq_true rfl, Nat.le_of_ble_eq_true rfl⟩ rfl hl.1 rfl (Nat.le_of_ble_eq_true rfl) dX7_fewest_31 (fun S_5 v_6 H locs h hG => ?_)
      refine lv_goto (tgt := 38) hx hb dX7_fewest_34 (by decide) ?_
      exact w_X7_fewest_38 hM hr hlk h (fun t0 e => k0 t0 e) (fun S x2 x3 e => k1 S x2 x3 e) hG (lv_sub hl [0, 1, 2, 3] rfl)
theorem wl_X7_fewest_4 {x1 : Int32} (hM : xM p c cX7_fewest m s args RX7 4 D cy xtb a z) (hr : meth.sig.returnType = (some .int)) (hlk : meth.locks = false) {S' : xSt} {v' : Int32} {q : (xSt × Int32)} (k0 : ∀ t0 : xSt × Int32, q = t0 → t0 = (S', v')) (n : Nat) : ∀ (S : xSt) (x2 : Int32) (x3 : Int32) (H : Heap) (locs : List Loc) (ls : Array Slot), xlp (fun q : (xSt × Int32 × Int32) => f_X7_fewest_4 x1 q.1 q.2.1 q.2.2) n (S, x2, x3) = some q → xG D cy xtb a S s H locs → lv_has ls 4 [(0, .ref (a 87)), (1, .int x1), (2, .int x2), (3, .int x3)] → W p l e ({ frames := 9, cells := 0, slots := 0, locals := 215 } : Room) s m args below meth c H locs 0 0 (MQ below (xQi D cy xtb a S' v' s.heap.size) args s 0 0 (xA xtb a s.heap.size)) (F0 m 4 ls []) := by
  induction n with
  | zero => intro S x2 x3 H locs ls h; exact (xlp_0 h).elim
  | succ n ih =>
    intro S x2 x3 H locs ls h hG hl
    obtain ⟨q1, hq, hc, he⟩ := xlp_at h
    exact w_X7_fewest_4 hM hr hlk (q := q1) hq (fun t0 e => k0 t0 (he _ e).symm) (fun S x2 x3 e H locs ls hG hl => ih S x2 x3 H locs ls (hc _ e) hG hl) hG hl
set_option maxHeartbeats 4000000 in
set_option maxRecDepth 100000 in
theorem w_X7_fewest_0 {x1 : Int32} (hM : xM p c cX7_fewest m s args RX7 4 D cy xtb a z) (hr : meth.sig.returnType = (some .int)) (hlk : meth.locks = false) {S' : xSt} {v' : Int32} {S : xSt} {q : (xSt × Int32)} (h : f_X7_fewest_0 x1 S = some q) (k0 : ∀ t0 : xSt × Int32, q = t0 → t0 = (S', v')) {H : Heap} {locs : List Loc} (hG : xG D cy xtb a S s H locs) {ls : Array Slot} (hl : lv_has ls 4 [(0, .ref (a 87)), (1, .int x1)]) : W p l e ({ frames := 9, cells := 0, slots := 0, locals := 215 } : Room) s m args below meth c H locs 0 0 (MQ below (xQi D cy xtb a S' v' s.heap.size) args s 0 0 (xA xtb a s.heap.size)) (F0 m 0 ls []) := by
  have hx := hM.1
  have hb := hM.2.1
  refine lv_iconst (v := (0 : Int32)) hx hb dX7_fewest_0 (by decide) ?_
  refine lv_istore_n (lv' := [(2, .int (0 : Int32)), (0, .ref (a 87)), (1, .int x1)]) hx hb dX7_fewest_1 rfl hl (by decide) rfl (fun ls hl => ?_)
  refine lv_iconst (v := (0 : Int32)) hx hb dX7_fewest_2 (by decide) ?_
  refine lv_istore_n (lv' := [(3, .int (0 : Int32)), (2, .int (0 : Int32)), (0, .ref (a 87)), (1, .int x1)]) hx hb dX7_fewest_3 rfl hl (by decide) rfl (fun ls hl => ?_)
  exact wl_X7_fewest_4 hM hr hlk (fun t0 e => k0 t0 e) 5000 _ _ _ _ _ _ h hG (lv_sub hl [2, 3, 1, 0] rfl)
set_option maxHeartbeats 4000000 in
set_option maxRecDepth 100000 in
theorem c_X7_fewest {l : Launch} {D : va_G} {cy : Nat → ClassId} {a z : Nat → Nat} (hI : xI xtb a) {S : xSt} {x1 : Int32} {S' : xSt} {v' : Int32} (hf : f_X7_fewest S x1 = some (S', v')) (sz : Nat) : Met l yX7_fewest (Cond.code yX7_fewest cX7_fewest 4 (some .int) :: xTB) ({ frames := 9, cells := 0, slots := 0, locals := 215 } : Room) (va_Pc [.ref (a 87), .int x1] (xPre D cy xtb a z S sz)) (xQi D cy xtb a S' v' sz) 0 0 (xA xtb a sz) := by
  refine Met.ofW (cc := cX7_fewest) (maxL := 4) (ret := (some .int)) (by decide) rfl ?_
  intro p e s m args below meth c s₁ B hml hv
  obtain ⟨rfl, hsz, hP, hK, hE⟩ := hv
  subst hsz
  have hl := lv_entry ([.ref (a 87), .int x1]) (n := 4) (Nat.le_of_ble_eq_true rfl)
  rw [lg_entry_eq]
  generalize (lg_sl ([.ref (a 87), .int x1]) ++ List.replicate (4 - (lg_sl ([.ref (a 87), .int x1])).length) Slot.unset).toArray = ls at hl ⊢
  have hl : lv_has ls 4 [(0, .ref (a 87)), (1, .int x1)] := hl
  exact w_X7_fewest_0 ⟨B.exec, B.bytes, hml, findClass_of_methodNamed B.named, fun w hw => atoms_spec (ws := Cond.code yX7_fewest cX7_fewest 4 (some .int) :: xTB) B.pre w (List.mem_cons_of_mem _ hw), hK, hI, hE⟩ B.returns B.notSynchronized hf (fun t0 e => e.symm) ⟨hP, va_S.rf⟩ (lv_sub hl [0, 1] rfl)
set_option maxHeartbeats 4000000 in
set_option maxRecDepth 100000 in
theorem w_X8_holdRow_17 {o : Nat} (ho : xIs_X8 o) {x3 : Int32} (hM : xM p c cX8_holdRow m s args RX8 4 D cy xtb a z) (hr : meth.sig.returnType = none) (hlk : meth.locks = false) {S' : xSt} {v' : Unit} {S : xSt} {q : ((xSt × Int32) ⊕ (xSt × Unit))} (h : f_X8_holdRow_17 o S x3 = some q) (k0 : ∀ t0 : xSt × Unit, q = (.inr t0) → t0 = (S', v')) (k1 : ∀ (S : xSt) (x3 : Int32), q = (.inl (S, x3)) → ∀ (H : Heap) (locs : List Loc) (ls : Array Slot), xG D cy xtb a S s H locs → lv_has ls 4 [(0, .ref (a o)), (3, .int x3)] → W p l e ({ frames := 0, cells := 0, slots := 0, locals := 0 } : Room) s m args below meth c H locs 0 0 (MQ below (xQv D cy xtb a S' v' s.heap.size) args s 0 0 (xA xtb a s.heap.size)) (F0 m 17 ls [])) {H : Heap} {locs : List Loc} (hG : xG D cy xtb a S s H locs) {ls : Array Slot} (hl : lv_has ls 4 [(0, .ref (a o)), (3, .int x3)]) : W p l e ({ frames := 0, cells := 0, slots := 0, locals := 0 } : Room) s m args below meth c H locs 0 0 (MQ below (xQv D cy xtb a S' v' s.heap.size) args s 0 0 (xA xtb a s.heap.size)) (F0 m 17 ls []) := by
  have hx := hM.1
  have hb := hM.2.1
  refine lv_iload_n hx hb dX8_holdRow_17 rfl (lv_at hl 1 rfl) ?_
  refine lv_bipush (v := (60 : Int32)) hx hb dX8_holdRow_18 (by decide) ?_
  refine x_icmp_ge (tgt := 36) hM h dX8_holdRow_20 (by decide) (fun c_1 h => ?_) (fun c_1 h => ?_)
  · exact x_rv hM hG hr hlk (k0 _ (Option.some.inj h).symm) dX8_holdRow_36
  · refine lv_aload_n hx hb dX8_holdRow_23 rfl (lv_at hl 0 rfl) ?_
    refine x_gr (r := o + 1) hM hG xfl_X8_15 ho.1 (by decide) rfl dX8_holdRow_24 ?_
    refine lv_iload_n hx hb dX8_holdRow_27 rfl (lv_at hl 1 rfl) ?_
    refine lv_lconst (v := (0 : Int64)) hx hb dX8_holdRow_28 (by decide) ?_
    refine x_last hM hG ho.2 h dX8_holdRow_29 (fun S_2 H locs h hG => ?_)
    refine x_iinc hM (fun v => [(3, .int v), (0, .ref (a o))]) h dX8_holdRow_30 hl (k := 1) rfl (by decide) (by decide) (fun _ => rfl) (fun v_3 ls h hl => ?_)
    refine lv_goto (tgt := 17) hx hb dX8_holdRow_33 (by decide) ?_
    exact k1 _ _ (Option.some.inj h).symm _ _ _ hG (lv_sub hl [1, 0] rfl)
theorem wl_X8_holdRow_17 {o : Nat} (ho : xIs_X8 o) (hM : xM p c cX8_holdRow m s args RX8 4 D cy xtb a z) (hr : meth.sig.returnType = none) (hlk : meth.locks = false) {S' : xSt} {v' : Unit} {q : (xSt × Unit)} (k0 : ∀ t0 : xSt × Unit, q = t0 → t0 = (S', v')) (n : Nat) : ∀ (S : xSt) (x3 : Int32) (H : Heap) (locs : List Loc) (ls : Array Slot), xlp (fun q : (xSt × Int32) => f_X8_holdRow_17 o q.1 q.2) n (S, x3) = some q → xG D cy xtb a S s H locs → lv_has ls 4 [(0, .ref (a o)), (3, .int x3)] → W p l e ({ frames := 0, cells := 0, slots := 0, locals := 0 } : Room) s m args below meth c H locs 0 0 (MQ below (xQv D cy xtb a S' v' s.heap.size) args s 0 0 (xA xtb a s.heap.size)) (F0 m 17 ls []) := by
  induction n with
  | zero => intro S x3 H locs ls h; exact (xlp_0 h).elim
  | succ n ih =>
    intro S x3 H locs ls h hG hl
    obtain ⟨q1, hq, hc, he⟩ := xlp_at h
    exact w_X8_holdRow_17 ho hM hr hlk (q := q1) hq (fun t0 e => k0 t0 (he _ e).symm) (fun S x3 e H locs ls hG hl => ih S x3 H locs ls (hc _ e) hG hl) hG hl
set_option maxHeartbeats 4000000 in
set_option maxRecDepth 100000 in
theorem w_X8_holdRow_0 {o : Nat} (ho : xIs_X8 o) {x1 : Int32} {x2 : Int32} (hM : xM p c cX8_holdRow m s args RX8 4 D cy xtb a z) (hr : meth.sig.returnType = none) (hlk : meth.locks = false) {S' : xSt} {v' : Unit} {S : xSt} {q : (xSt × Unit)} (h : f_X8_holdRow_0 o x1 x2 S = some q) (k0 : ∀ t0 : xSt × Unit, q = t0 → t0 = (S', v')) {H : Heap} {locs : List Loc} (hG : xG D cy xtb a S s H locs) {ls : Array Slot} (hl : lv_has ls 4 [(0, .ref (a o)), (1, .int x1), (2, .int x2)]) : W p l e ({ frames := 0, cells := 0, slots := 0, locals := 0 } : Room) s m args below meth c H locs 0 0 (MQ below (xQv D cy xtb a S' v' s.heap.size) args s 0 0 (xA xtb a s.heap.size)) (F0 m 0 ls []) := by
  have hx := hM.1
  have hb := hM.2.1
  refine lv_aload_n hx hb dX8_holdRow_0 rfl (lv_at hl 0 rfl) ?_
  refine lv_iconst (v := (2 : Int32)) hx hb dX8_holdRow_1 (by decide) ?_
  refine x_pi hM hG xfl_X8_11 xfp_X8_0 ho.1 (by decide) rfl rfl rfl h dX8_holdRow_2 (fun S_1 H locs h hG => ?_)
  refine lv_aload_n hx hb dX8_holdRow_5 rfl (lv_at hl 0 rfl) ?_
  refine lv_iload_n hx hb dX8_holdRow_6 rfl (lv_at hl 1 rfl) ?_
  refine x_pi hM hG xfl_X8_22 xfp_X8_2 ho.1 (by decide) rfl rfl rfl h dX8_holdRow_7 (fun S_2 H locs h hG => ?_)
  refine lv_aload_n hx hb dX8_holdRow_10 rfl (lv_at hl 0 rfl) ?_
  refine lv_iload_n hx hb dX8_holdRow_11 rfl (lv_at hl 2 rfl) ?_
  refine x_pi hM hG xfl_X8_25 xfp_X8_3 ho.1 (by decide) rfl rfl rfl h dX8_holdRow_12 (fun S_3 H locs h hG => ?_)
  refine lv_iconst (v := (0 : Int32)) hx hb dX8_holdRow_15 (by decide) ?_
  refine lv_istore_n (lv' := [(3, .int (0 : Int32)), (0, .ref (a o)), (1, .int x1), (2, .int x2)]) hx hb dX8_holdRow_16 rfl hl (by decide) rfl (fun ls hl => ?_)
  exact wl_X8_holdRow_17 ho hM hr hlk (fun t0 e => k0 t0 e) 5000 _ _ _ _ _ h hG (lv_sub hl [1, 0] rfl)
set_option maxHeartbeats 4000000 in
set_option maxRecDepth 100000 in
theorem c_X8_holdRow {l : Launch} {D : va_G} {cy : Nat → ClassId} {a z : Nat → Nat} (hI : xI xtb a) {o : Nat} (ho : xIs_X8 o) {S : xSt} {x1 : Int32} {x2 : Int32} {S' : xSt} {v' : Unit} (hf : f_X8_holdRow o S x1 x2 = some (S', v')) (sz : Nat) : Met l yX8_holdRow (Cond.code yX8_holdRow cX8_holdRow 4 none :: xTB) ({ frames := 0, cells := 0, slots := 0, locals := 0 } : Room) (va_Pc [.ref (a o), .int x1, .int x2] (xPre D cy xtb a z S sz)) (xQv D cy xtb a S' v' sz) 0 0 (xA xtb a sz) := by
  refine Met.ofW (cc := cX8_holdRow) (maxL := 4) (ret := none) (by decide) rfl ?_
  intro p e s m args below meth c s₁ B hml hv
  obtain ⟨rfl, hsz, hP, hK, hE⟩ := hv
  subst hsz
  have hl := lv_entry ([.ref (a o), .int x1, .int x2]) (n := 4) (Nat.le_of_ble_eq_true rfl)
  rw [lg_entry_eq]
  generalize (lg_sl ([.ref (a o), .int x1, .int x2]) ++ List.replicate (4 - (lg_sl ([.ref (a o), .int x1, .int x2])).length) Slot.unset).toArray = ls at hl ⊢
  have hl : lv_has ls 4 [(0, .ref (a o)), (1, .int x1), (2, .int x2)] := hl
  exact w_X8_holdRow_0 ho ⟨B.exec, B.bytes, hml, findClass_of_methodNamed B.named, fun w hw => atoms_spec (ws := Cond.code yX8_holdRow cX8_holdRow 4 none :: xTB) B.pre w (List.mem_cons_of_mem _ hw), hK, hI, hE⟩ B.returns B.notSynchronized hf (fun t0 e => e.symm) ⟨hP, va_S.rf⟩ (lv_sub hl [0, 1, 2] rfl)
set_option maxHeartbeats 4000000 in
set_option maxRecDepth 100000 in
theorem w_X8_refusalOfBytes_29 {o : Nat} (ho : xIs_X8 o) (hM : xM p c cX8_refusalOfBytes m s args RX8 1 D cy xtb a z) (hr : meth.sig.returnType = (some .int)) (hlk : meth.locks = false) {S' : xSt} {v' : Int32} {S : xSt} {q : (xSt × Int32)} (h : f_X8_refusalOfBytes_29 o S = some q) (k0 : ∀ t0 : xSt × Int32, q = t0 → t0 = (S', v')) {H : Heap} {locs : List Loc} (hG : xG D cy xtb a S s H locs) {ls : Array Slot} (hl : lv_has ls 1 []) : W p l e ({ frames := 0, cells := 0, slots := 0, locals := 0 } : Room) s m args below meth c H locs 0 0 (MQ below (xQi D cy xtb a S' v' s.heap.size) args s 0 0 (xA xtb a s.heap.size)) (F0 m 29 ls []) := by
  have hx := hM.1
  have hb := hM.2.1
  refine lv_bipush (v := (-12 : Int32)) hx hb dX8_refusalOfBytes_29 (by decide) ?_
  exact x_ri hM hG hr hlk rfl (k0 _ (Option.some.inj h).symm) dX8_refusalOfBytes_31
set_option maxHeartbeats 4000000 in
set_option maxRecDepth 100000 in
theorem w_X8_refusalOfBytes_0 {o : Nat} (ho : xIs_X8 o) (hM : xM p c cX8_refusalOfBytes m s args RX8 1 D cy xtb a z) (hr : meth.sig.returnType = (some .int)) (hlk : meth.locks = false) {S' : xSt} {v' : Int32} {S : xSt} {q : (xSt × Int32)} (h : f_X8_refusalOfBytes_0 o S = some q) (k0 : ∀ t0 : xSt × Int32, q = t0 → t0 = (S', v')) {H : Heap} {locs : List Loc} (hG : xG D cy xtb a S s H locs) {ls : Array Slot} (hl : lv_has ls 1 [(0, .ref (a o))]) : W p l e ({ frames := 0, cells := 0, slots := 0, locals := 0 } : Room) s m args below meth c H locs 0 0 (MQ below (xQi D cy xtb a S' v' s.heap.size) args s 0 0 (xA xtb a s.heap.size)) (F0 m 0 ls []) := by
  have hx := hM.1
  have hb := hM.2.1
  refine lv_aload_n hx hb dX8_refusalOfBytes_0 rfl (lv_at hl 0 rfl) ?_
  refine x_gi hM hG xfl_X8_11 ho.1 (by decide) rfl h dX8_refusalOfBytes_1 (fun v_1 h => ?_)
  refine x_if_ne (tgt := 10) hM h dX8_refusalOfBytes_4 (by decide) (fun c_2 h => ?_) (fun c_2 h => ?_)
  · refine lv_aload_n hx hb dX8_refusalOfBytes_10 rfl (lv_at hl 0 rfl) ?_
    refine x_gi hM hG xfl_X8_11 ho.1 (by decide) rfl h dX8_refusalOfBytes_11 (fun v_3 h => ?_)
    refine lv_iconst (v := (2 : Int32)) hx hb dX8_refusalOfBytes_14 (by decide) ?_
    refine x_icmp_ne (tgt := 29) hM h dX8_refusalOfBytes_15 (by decide) (fun c_4 h => ?_) (fun c_4 h => ?_)
    · exact w_X8_refusalOfBytes_29 ho hM hr hlk h (fun t0 e => k0 t0 e) hG (lv_sub hl [] rfl)
    · refine lv_aload_n hx hb dX8_refusalOfBytes_18 rfl (lv_at hl 0 rfl) ?_
      refine x_gi hM hG xfl_X8_22 ho.1 (by decide) rfl h dX8_refusalOfBytes_19 (fun v_5 h => ?_)
      refine x_if_ne (tgt := 29) hM h dX8_refusalOfBytes_22 (by decide) (fun c_6 h => ?_) (fun c_6 h => ?_)
      · exact w_X8_refusalOfBytes_29 ho hM hr hlk h (fun t0 e => k0 t0 e) hG (lv_sub hl [] rfl)
      · refine lv_iconst (v := (0 : Int32)) hx hb dX8_refusalOfBytes_25 (by decide) ?_
        refine lv_goto (tgt := 31) hx hb dX8_refusalOfBytes_26 (by decide) ?_
        exact x_ri hM hG hr hlk rfl (k0 _ (Option.some.inj h).symm) dX8_refusalOfBytes_31
  · refine lv_bipush (v := (-11 : Int32)) hx hb dX8_refusalOfBytes_7 (by decide) ?_
    exact x_ri hM hG hr hlk rfl (k0 _ (Option.some.inj h).symm) dX8_refusalOfBytes_9
set_option maxHeartbeats 4000000 in
set_option maxRecDepth 100000 in
theorem c_X8_refusalOfBytes {l : Launch} {D : va_G} {cy : Nat → ClassId} {a z : Nat → Nat} (hI : xI xtb a) {o : Nat} (ho : xIs_X8 o) {S : xSt} {S' : xSt} {v' : Int32} (hf : f_X8_refusalOfBytes o S = some (S', v')) (sz : Nat) : Met l yX8_refusalOfBytes (Cond.code yX8_refusalOfBytes cX8_refusalOfBytes 1 (some .int) :: xTB) ({ frames := 0, cells := 0, slots := 0, locals := 0 } : Room) (va_Pc [.ref (a o)] (xPre D cy xtb a z S sz)) (xQi D cy xtb a S' v' sz) 0 0 (xA xtb a sz) := by
  refine Met.ofW (cc := cX8_refusalOfBytes) (maxL := 1) (ret := (some .int)) (by decide) rfl ?_
  intro p e s m args below meth c s₁ B hml hv
  obtain ⟨rfl, hsz, hP, hK, hE⟩ := hv
  subst hsz
  have hl := lv_entry ([.ref (a o)]) (n := 1) (Nat.le_of_ble_eq_true rfl)
  rw [lg_entry_eq]
  generalize (lg_sl ([.ref (a o)]) ++ List.replicate (1 - (lg_sl ([.ref (a o)])).length) Slot.unset).toArray = ls at hl ⊢
  have hl : lv_has ls 1 [(0, .ref (a o))] := hl
  exact w_X8_refusalOfBytes_0 ho ⟨B.exec, B.bytes, hml, findClass_of_methodNamed B.named, fun w hw => atoms_spec (ws := Cond.code yX8_refusalOfBytes cX8_refusalOfBytes 1 (some .int) :: xTB) B.pre w (List.mem_cons_of_mem _ hw), hK, hI, hE⟩ B.returns B.notSynchronized hf (fun t0 e => e.symm) ⟨hP, va_S.rf⟩ (lv_sub hl [0] rfl)
set_option maxHeartbeats 4000000 in
set_option maxRecDepth 100000 in
theorem w_X8_refusalOfPlace_37 {o : Nat} (ho : xIs_X8 o) (hM : xM p c cX8_refusalOfPlace m s args RX8 2 D cy xtb a z) (hr : meth.sig.returnType = (some .int)) (hlk : meth.locks = false) {S' : xSt} {v' : Int32} {S : xSt} {q : (xSt × Int32)} (h : f_X8_refusalOfPlace_37 o S = some q) (k0 : ∀ t0 : xSt × Int32, q = t0 → t0 = (S', v')) {H : Heap} {locs : List Loc} (hG : xG D cy xtb a S s H locs) {ls : Array Slot} (hl : lv_has ls 2 []) : W p l e ({ frames := 0, cells := 0, slots := 0, locals := 0 } : Room) s m args below meth c H locs 0 0 (MQ below (xQi D cy xtb a S' v' s.heap.size) args s 0 0 (xA xtb a s.heap.size)) (F0 m 37 ls []) := by
  have hx := hM.1
  have hb := hM.2.1
  refine lv_bipush (v := (-13 : Int32)) hx hb dX8_refusalOfPlace_37 (by decide) ?_
  exact x_ri hM hG hr hlk rfl (k0 _ (Option.some.inj h).symm) dX8_refusalOfPlace_39
set_option maxHeartbeats 4000000 in
set_option maxRecDepth 100000 in
theorem w_X8_refusalOfPlace_0 {o : Nat} (ho : xIs_X8 o) {x1 : Int32} (hM : xM p c cX8_refusalOfPlace m s args RX8 2 D cy xtb a z) (hr : meth.sig.returnType = (some .int)) (hlk : meth.locks = false) {S' : xSt} {v' : Int32} {S : xSt} {q : (xSt × Int32)} (h : f_X8_refusalOfPlace_0 o x1 S = some q) (k0 : ∀ t0 : xSt × Int32, q = t0 → t0 = (S', v')) {H : Heap} {locs : List Loc} (hG : xG D cy xtb a S s H locs) {ls : Array Slot} (hl : lv_has ls 2 [(0, .ref (a o)), (1, .int x1)]) : W p l e ({ frames := 0, cells := 0, slots := 0, locals := 0 } : Room) s m args below meth c H locs 0 0 (MQ below (xQi D cy xtb a S' v' s.heap.size) args s 0 0 (xA xtb a s.heap.size)) (F0 m 0 ls []) := by
  have hx := hM.1
  have hb := hM.2.1
  refine lv_aload_n hx hb dX8_refusalOfPlace_0 rfl (lv_at hl 0 rfl) ?_
  refine x_gi hM hG xfl_X8_11 ho.1 (by decide) rfl h dX8_refusalOfPlace_1 (fun v_1 h => ?_)
  refine x_if_ne (tgt := 10) hM h dX8_refusalOfPlace_4 (by decide) (fun c_2 h => ?_) (fun c_2 h => ?_)
  · refine lv_aload_n hx hb dX8_refusalOfPlace_10 rfl (lv_at hl 0 rfl) ?_
    refine x_gi hM hG xfl_X8_11 ho.1 (by decide) rfl h dX8_refusalOfPlace_11 (fun v_3 h => ?_)
    refine lv_iconst (v := (2 : Int32)) hx hb dX8_refusalOfPlace_14 (by decide) ?_
    refine x_icmp_eq (tgt := 21) hM h dX8_refusalOfPlace_15 (by decide) (fun c_4 h => ?_) (fun c_4 h => ?_)
    · refine lv_iload_n hx hb dX8_refusalOfPlace_21 rfl (lv_at hl 1 rfl) ?_
      refine x_if_lt (tgt := 37) hM h dX8_refusalOfPlace_22 (by decide) (fun c_5 h => ?_) (fun c_5 h => ?_)
      · exact w_X8_refusalOfPlace_37 ho hM hr hlk h (fun t0 e => k0 t0 e) hG (lv_sub hl [] rfl)
      · refine lv_iload_n hx hb dX8_refusalOfPlace_25 rfl (lv_at hl 1 rfl) ?_
        refine lv_aload_n hx hb dX8_refusalOfPlace_26 rfl (lv_at hl 0 rfl) ?_
        refine x_gi hM hG xfl_X8_25 ho.1 (by decide) rfl h dX8_refusalOfPlace_27 (fun v_6 h => ?_)
        refine x_icmp_ge (tgt := 37) hM h dX8_refusalOfPlace_30 (by decide) (fun c_7 h => ?_) (fun c_7 h => ?_)
        · exact w_X8_refusalOfPlace_37 ho hM hr hlk h (fun t0 e => k0 t0 e) hG (lv_sub hl [] rfl)
        · refine lv_iconst (v := (0 : Int32)) hx hb dX8_refusalOfPlace_33 (by decide) ?_
          refine lv_goto (tgt := 39) hx hb dX8_refusalOfPlace_34 (by decide) ?_
          exact x_ri hM hG hr hlk rfl (k0 _ (Option.some.inj h).symm) dX8_refusalOfPlace_39
    · refine lv_bipush (v := (-12 : Int32)) hx hb dX8_refusalOfPlace_18 (by decide) ?_
      exact x_ri hM hG hr hlk rfl (k0 _ (Option.some.inj h).symm) dX8_refusalOfPlace_20
  · refine lv_bipush (v := (-11 : Int32)) hx hb dX8_refusalOfPlace_7 (by decide) ?_
    exact x_ri hM hG hr hlk rfl (k0 _ (Option.some.inj h).symm) dX8_refusalOfPlace_9
set_option maxHeartbeats 4000000 in
set_option maxRecDepth 100000 in
theorem c_X8_refusalOfPlace {l : Launch} {D : va_G} {cy : Nat → ClassId} {a z : Nat → Nat} (hI : xI xtb a) {o : Nat} (ho : xIs_X8 o) {S : xSt} {x1 : Int32} {S' : xSt} {v' : Int32} (hf : f_X8_refusalOfPlace o S x1 = some (S', v')) (sz : Nat) : Met l yX8_refusalOfPlace (Cond.code yX8_refusalOfPlace cX8_refusalOfPlace 2 (some .int) :: xTB) ({ frames := 0, cells := 0, slots := 0, locals := 0 } : Room) (va_Pc [.ref (a o), .int x1] (xPre D cy xtb a z S sz)) (xQi D cy xtb a S' v' sz) 0 0 (xA xtb a sz) := by
  refine Met.ofW (cc := cX8_refusalOfPlace) (maxL := 2) (ret := (some .int)) (by decide) rfl ?_
  intro p e s m args below meth c s₁ B hml hv
  obtain ⟨rfl, hsz, hP, hK, hE⟩ := hv
  subst hsz
  have hl := lv_entry ([.ref (a o), .int x1]) (n := 2) (Nat.le_of_ble_eq_true rfl)
  rw [lg_entry_eq]
  generalize (lg_sl ([.ref (a o), .int x1]) ++ List.replicate (2 - (lg_sl ([.ref (a o), .int x1])).length) Slot.unset).toArray = ls at hl ⊢
  have hl : lv_has ls 2 [(0, .ref (a o)), (1, .int x1)] := hl
  exact w_X8_refusalOfPlace_0 ho ⟨B.exec, B.bytes, hml, findClass_of_methodNamed B.named, fun w hw => atoms_spec (ws := Cond.code yX8_refusalOfPlace cX8_refusalOfPlace 2 (some .int) :: xTB) B.pre w (List.mem_cons_of_mem _ hw), hK, hI, hE⟩ B.returns B.notSynchronized hf (fun t0 e => e.symm) ⟨hP, va_S.rf⟩ (lv_sub hl [0, 1] rfl)
set_option maxHeartbeats 4000000 in
set_option maxRecDepth 100000 in
theorem w_X8_store_100 {o : Nat} (ho : xIs_X8 o) {y1 : Int32} {y2 : Int64} (hM : xM p c cX8_store m s args RX8 4 D cy xtb a z) (hr : meth.sig.returnType = none) (hlk : meth.locks = false) {S' : xSt} {v' : Unit} {S : xSt} {q : (xSt × Unit)} (h : f_X8_store_100 o y1 y2 S = some q) (k0 : ∀ t0 : xSt × Unit, q = t0 → t0 = (S', v')) {H : Heap} {locs : List Loc} (hG : xG D cy xtb a S s H locs) {ls : Array Slot} (hl : lv_has ls 4 []) : W p l e ({ frames := 0, cells := 0, slots := 0, locals := 0 } : Room) s m args below meth c H locs 0 0 (MQ below (xQv D cy xtb a S' v' s.heap.size) args s 0 0 (xA xtb a s.heap.size)) (F0 m 100 ls [.long y2, .int y1, .ref (a (o + 1))]) := by
  have hx := hM.1
  have hb := hM.2.1
  refine x_last hM hG ho.2 h dX8_store_100 (fun S_1 H locs h hG => ?_)
  exact x_rv hM hG hr hlk (k0 _ (Option.some.inj h).symm) dX8_store_101
set_option maxHeartbeats 4000000 in
set_option maxRecDepth 100000 in
theorem w_X8_store_0 {o : Nat} (ho : xIs_X8 o) {x1 : Int32} {x2 : Int64} (hM : xM p c cX8_store m s args RX8 4 D cy xtb a z) (hr : meth.sig.returnType = none) (hlk : meth.locks = false) {S' : xSt} {v' : Unit} {S : xSt} {q : (xSt × Unit)} (h : f_X8_store_0 o x1 x2 S = some q) (k0 : ∀ t0 : xSt × Unit, q = t0 → t0 = (S', v')) {H : Heap} {locs : List Loc} (hG : xG D cy xtb a S s H locs) {ls : Array Slot} (hl : lv_has ls 4 [(0, .ref (a o)), (1, .int x1), (2, .long x2)]) : W p l e ({ frames := 0, cells := 0, slots := 0, locals := 0 } : Room) s m args below meth c H locs 0 0 (MQ below (xQv D cy xtb a S' v' s.heap.size) args s 0 0 (xA xtb a s.heap.size)) (F0 m 0 ls []) := by
  have hx := hM.1
  have hb := hM.2.1
  refine lv_aload_n hx hb dX8_store_0 rfl (lv_at hl 0 rfl) ?_
  refine x_gi hM hG xfl_X8_22 ho.1 (by decide) rfl h dX8_store_1 (fun v_1 h => ?_)
  by_cases c_2 : v_1 = (0 : Int32)
  · have h := (if_pos c_2).symm.trans h
    refine lv_tableIn (off := 32) (tgt := 36) hx hb dX8_store_4 (by rw [c_2]; decide) (by rw [c_2]; decide) (by rw [c_2]; rfl) (by decide) ?_
    refine lv_aload_n hx hb dX8_store_36 rfl (lv_at hl 0 rfl) ?_
    refine x_gr (r := o + 1) hM hG xfl_X8_15 ho.1 (by decide) rfl dX8_store_37 ?_
    refine lv_iload_n hx hb dX8_store_40 rfl (lv_at hl 1 rfl) ?_
    refine lv_lload_n hx hb dX8_store_41 rfl (lv_at hl 2 rfl) ?_
    refine x_l2i hM h dX8_store_42 (fun v_3 h => ?_)
    refine x_i2b hM h dX8_store_43 (fun v_4 h => ?_)
    refine x_i2l hM h dX8_store_44 (fun v_5 h => ?_)
    refine x_last hM hG ho.2 h dX8_store_45 (fun S_6 H locs h hG => ?_)
    refine lv_goto (tgt := 101) hx hb dX8_store_46 (by decide) ?_
    exact x_rv hM hG hr hlk (k0 _ (Option.some.inj h).symm) dX8_store_101
  · have h := (if_neg c_2).symm.trans h
    by_cases c_7 : v_1 = (1 : Int32)
    · have h := (if_pos c_7).symm.trans h
      refine lv_tableIn (off := 45) (tgt := 49) hx hb dX8_store_4 (by rw [c_7]; decide) (by rw [c_7]; decide) (by rw [c_7]; rfl) (by decide) ?_
      refine lv_aload_n hx hb dX8_store_49 rfl (lv_at hl 0 rfl) ?_
      refine x_gr (r := o + 1) hM hG xfl_X8_15 ho.1 (by decide) rfl dX8_store_50 ?_
      refine lv_iload_n hx hb dX8_store_53 rfl (lv_at hl 1 rfl) ?_
      refine lv_lload_n hx hb dX8_store_54 rfl (lv_at hl 2 rfl) ?_
      refine x_l2i hM h dX8_store_55 (fun v_8 h => ?_)
      refine x_i2s hM h dX8_store_56 (fun v_9 h => ?_)
      refine x_i2l hM h dX8_store_57 (fun v_10 h => ?_)
      refine x_last hM hG ho.2 h dX8_store_58 (fun S_11 H locs h hG => ?_)
      refine lv_goto (tgt := 101) hx hb dX8_store_59 (by decide) ?_
      exact x_rv hM hG hr hlk (k0 _ (Option.some.inj h).symm) dX8_store_101
    · have h := (if_neg c_7).symm.trans h
      by_cases c_12 : v_1 = (2 : Int32)
      · have h := (if_pos c_12).symm.trans h
        refine lv_tableIn (off := 58) (tgt := 62) hx hb dX8_store_4 (by rw [c_12]; decide) (by rw [c_12]; decide) (by rw [c_12]; rfl) (by decide) ?_
        refine lv_aload_n hx hb dX8_store_62 rfl (lv_at hl 0 rfl) ?_
        refine x_gr (r := o + 1) hM hG xfl_X8_15 ho.1 (by decide) rfl dX8_store_63 ?_
        refine lv_iload_n hx hb dX8_store_66 rfl (lv_at hl 1 rfl) ?_
        refine lv_lload_n hx hb dX8_store_67 rfl (lv_at hl 2 rfl) ?_
        refine x_l2i hM h dX8_store_68 (fun v_13 h => ?_)
        refine x_i2l hM h dX8_store_69 (fun v_14 h => ?_)
        refine x_last hM hG ho.2 h dX8_store_70 (fun S_15 H locs h hG => ?_)
        refine lv_goto (tgt := 101) hx hb dX8_store_71 (by decide) ?_
        exact x_rv hM hG hr hlk (k0 _ (Option.some.inj h).symm) dX8_store_101
      · have h := (if_neg c_12).symm.trans h
        by_cases c_16 : v_1 = (3 : Int32)
        · have h := (if_pos c_16).symm.trans h
          refine lv_tableIn (off := 70) (tgt := 74) hx hb dX8_store_4 (by rw [c_16]; decide) (by rw [c_16]; decide) (by rw [c_16]; rfl) (by decide) ?_
          refine lv_aload_n hx hb dX8_store_74 rfl (lv_at hl 0 rfl) ?_
          refine x_gr (r := o + 1) hM hG xfl_X8_15 ho.1 (by decide) rfl dX8_store_75 ?_
          refine lv_iload_n hx hb dX8_store_78 rfl (lv_at hl 1 rfl) ?_
          refine lv_lload_n hx hb dX8_store_79 rfl (lv_at hl 2 rfl) ?_
          refine x_last hM hG ho.2 h dX8_store_80 (fun S_17 H locs h hG => ?_)
          refine lv_goto (tgt := 101) hx hb dX8_store_81 (by decide) ?_
          exact x_rv hM hG hr hlk (k0 _ (Option.some.inj h).symm) dX8_store_101
        · have h := (if_neg c_16).symm.trans h
          refine lv_tableOut (tgt := 84) hx hb dX8_store_4 (x_tout [(0 : Int32), (1 : Int32), (2 : Int32), (3 : Int32)] 0 (by decide) (by decide) (List.forall_mem_cons.mpr ⟨c_2, (List.forall_mem_cons.mpr ⟨c_7, (List.forall_mem_cons.mpr ⟨c_12, (List.forall_mem_cons.mpr ⟨c_16, (fun _ h => absurd h List.not_mem_nil)⟩)⟩)⟩)⟩)) (by decide) ?_
          refine lv_aload_n hx hb dX8_store_84 rfl (lv_at hl 0 rfl) ?_
          refine x_gr (r := o + 1) hM hG xfl_X8_15 ho.1 (by decide) rfl dX8_store_85 ?_
          refine lv_iload_n hx hb dX8_store_88 rfl (lv_at hl 1 rfl) ?_
          refine lv_lload_n hx hb dX8_store_89 rfl (lv_at hl 2 rfl) ?_
          refine lv_lconst (v := (0 : Int64)) hx hb dX8_store_90 (by decide) ?_
          refine x_lcmp hM h dX8_store_91 (fun v_18 h => ?_)
          refine x_if_eq (tgt := 99) hM h dX8_store_92 (by decide) (fun c_19 h => ?_) (fun c_19 h => ?_)
          · refine lv_lconst (v := (0 : Int64)) hx hb dX8_store_99 (by decide) ?_
            exact w_X8_store_100 ho hM hr hlk h (fun t0 e => k0 t0 e) hG (lv_sub hl [] rfl)
          · refine lv_lconst (v := (1 : Int64)) hx hb dX8_store_95 (by decide) ?_
            refine lv_goto (tgt := 100) hx hb dX8_store_96 (by decide) ?_
            exact w_X8_store_100 ho hM hr hlk h (fun t0 e => k0 t0 e) hG (lv_sub hl [] rfl)
set_option maxHeartbeats 4000000 in
set_option maxRecDepth 100000 in
theorem c_X8_store {l : Launch} {D : va_G} {cy : Nat → ClassId} {a z : Nat → Nat} (hI : xI xtb a) {o : Nat} (ho : xIs_X8 o) {S : xSt} {x1 : Int32} {x2 : Int64} {S' : xSt} {v' : Unit} (hf : f_X8_store o S x1 x2 = some (S', v')) (sz : Nat) : Met l yX8_store (Cond.code yX8_store cX8_store 4 none :: xTB) ({ frames := 0, cells := 0, slots := 0, locals := 0 } : Room) (va_Pc [.ref (a o), .int x1, .long x2] (xPre D cy xtb a z S sz)) (xQv D cy xtb a S' v' sz) 0 0 (xA xtb a sz) := by
  refine Met.ofW (cc := cX8_store) (maxL := 4) (ret := none) (by decide) rfl ?_
  intro p e s m args below meth c s₁ B hml hv
  obtain ⟨rfl, hsz, hP, hK, hE⟩ := hv
  subst hsz
  have hl := lv_entry ([.ref (a o), .int x1, .long x2]) (n := 4) (Nat.le_of_ble_eq_true rfl)
  rw [lg_entry_eq]
  generalize (lg_sl ([.ref (a o), .int x1, .long x2]) ++ List.replicate (4 - (lg_sl ([.ref (a o), .int x1, .long x2])).length) Slot.unset).toArray = ls at hl ⊢
  have hl : lv_has ls 4 [(0, .ref (a o)), (1, .int x1), (2, .long x2)] := hl
  exact w_X8_store_0 ho ⟨B.exec, B.bytes, hml, findClass_of_methodNamed B.named, fun w hw => atoms_spec (ws := Cond.code yX8_store cX8_store 4 none :: xTB) B.pre w (List.mem_cons_of_mem _ hw), hK, hI, hE⟩ B.returns B.notSynchronized hf (fun t0 e => e.symm) ⟨hP, va_S.rf⟩ (lv_sub hl [0, 1, 2] rfl)
set_option maxHeartbeats 4000000 in
set_option maxRecDepth 100000 in
theorem w_X9_add_0 {x1 : Int32} (hM : xM p c cX9_add m s args RX9 2 D cy xtb a z) (hr : meth.sig.returnType = (some .int)) (hlk : meth.locks = false) {S' : xSt} {v' : Int32} {S : xSt} {q : (xSt × Int32)} (h : f_X9_add_0 x1 S = some q) (k0 : ∀ t0 : xSt × Int32, q = t0 → t0 = (S', v')) {H : Heap} {locs : List Loc} (hG : xG D cy xtb a S s H locs) {ls : Array Slot} (hl : lv_has ls 2 [(0, .ref (a 2)), (1, .int x1)]) : W p l e ({ frames := 0, cells := 0, slots := 0, locals := 0 } : Room) s m args below meth c H locs 0 0 (MQ below (xQi D cy xtb a S' v' s.heap.size) args s 0 0 (xA xtb a s.heap.size)) (F0 m 0 ls []) := by
  have hx := hM.1
  have hb := hM.2.1
  refine lv_aload_n hx hb dX9_add_0 rfl (lv_at hl 0 rfl) ?_
  refine x_gi hM hG xfl_X9_27 xct_2 (by decide) rfl h dX9_add_1 (fun v_1 h => ?_)
  refine lv_bipush (v := (120 : Int32)) hx hb dX9_add_4 (by decide) ?_
  refine x_icmp_lt (tgt := 12) hM h dX9_add_6 (by decide) (fun c_2 h => ?_) (fun c_2 h => ?_)
  · refine lv_aload_n hx hb dX9_add_12 rfl (lv_at hl 0 rfl) ?_
    refine x_gr (r := 3) hM hG xfl_X9_11 xct_2 (by decide) rfl dX9_add_13 ?_
    refine lv_aload_n hx hb dX9_add_16 rfl (lv_at hl 0 rfl) ?_
    refine x_gi hM hG xfl_X9_27 xct_2 (by decide) rfl h dX9_add_17 (fun v_3 h => ?_)
    refine lv_iload_n hx hb dX9_add_20 rfl (lv_at hl 1 rfl) ?_
    refine x_iast hM hG xct_3 h dX9_add_21 (fun S_4 H locs h hG => ?_)
    refine lv_aload_n hx hb dX9_add_22 rfl (lv_at hl 0 rfl) ?_
    refine lv_dup hx hb dX9_add_23 rfl ?_
    refine x_gi hM hG xfl_X9_27 xct_2 (by decide) rfl h dX9_add_24 (fun v_5 h => ?_)
    refine lv_iconst (v := (1 : Int32)) hx hb dX9_add_27 (by decide) ?_
    refine x_iadd hM h dX9_add_28 (fun v_6 h => ?_)
    refine x_pi hM hG xfl_X9_27 xfp_X9_1 xct_2 (by decide) rfl rfl rfl h dX9_add_29 (fun S_7 H locs h hG => ?_)
    refine lv_aload_n hx hb dX9_add_32 rfl (lv_at hl 0 rfl) ?_
    refine x_gi hM hG xfl_X9_27 xct_2 (by decide) rfl h dX9_add_33 (fun v_8 h => ?_)
    exact x_ri hM hG hr hlk rfl (k0 _ (Option.some.inj h).symm) dX9_add_36
  · refine lv_bipush (v := (-3 : Int32)) hx hb dX9_add_9 (by decide) ?_
    exact x_ri hM hG hr hlk rfl (k0 _ (Option.some.inj h).symm) dX9_add_11
set_option maxHeartbeats 4000000 in
set_option maxRecDepth 100000 in
theorem c_X9_add {l : Launch} {D : va_G} {cy : Nat → ClassId} {a z : Nat → Nat} (hI : xI xtb a) {S : xSt} {x1 : Int32} {S' : xSt} {v' : Int32} (hf : f_X9_add S x1 = some (S', v')) (sz : Nat) : Met l yX9_add (Cond.code yX9_add cX9_add 2 (some .int) :: xTB) ({ frames := 0, cells := 0, slots := 0, locals := 0 } : Room) (va_Pc [.ref (a 2), .int x1] (xPre D cy xtb a z S sz)) (xQi D cy xtb a S' v' sz) 0 0 (xA xtb a sz) := by
  refine Met.ofW (cc := cX9_add) (maxL := 2) (ret := (some .int)) (by decide) rfl ?_
  intro p e s m args below meth c s₁ B hml hv
  obtain ⟨rfl, hsz, hP, hK, hE⟩ := hv
  subst hsz
  have hl := lv_entry ([.ref (a 2), .int x1]) (n := 2) (Nat.le_of_ble_eq_true rfl)
  rw [lg_entry_eq]
  generalize (lg_sl ([.ref (a 2), .int x1]) ++ List.replicate (2 - (lg_sl ([.ref (a 2), .int x1])).length) Slot.unset).toArray = ls at hl ⊢
  have hl : lv_has ls 2 [(0, .ref (a 2)), (1, .int x1)] := hl
  exact w_X9_add_0 ⟨B.exec, B.bytes, hml, findClass_of_methodNamed B.named, fun w hw => atoms_spec (ws := Cond.code yX9_add cX9_add 2 (some .int) :: xTB) B.pre w (List.mem_cons_of_mem _ hw), hK, hI, hE⟩ B.returns B.notSynchronized hf (fun t0 e => e.symm) ⟨hP, va_S.rf⟩ (lv_sub hl [0, 1] rfl)
end XWwalkX1
