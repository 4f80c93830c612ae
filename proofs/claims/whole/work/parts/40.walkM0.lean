section XWwalkM0
variable {p : Program} {l : Launch} {e : Env} {s : State} {m : MethodId} {args : Array Value} {below : List Frame} {meth : Method} {c : Code} {D : va_G} {cy : Nat → ClassId} {a z : Nat → Nat}
set_option maxHeartbeats 4000000 in
set_option maxRecDepth 100000 in
theorem w_X12_in_14 (hM : xM p c cX12_in m s args RX12 3 D cy xmb a z) (hr : meth.sig.returnType = (some .boolean)) (hlk : meth.locks = false) {S' : xSt} {v' : Int32} {S : xSt} {q : (xSt × Int32)} (h : f_X12_in_14 S = some q) (k0 : ∀ t0 : xSt × Int32, q = t0 → t0 = (S', v')) {H : Heap} {locs : List Loc} (hG : xG D cy xmb a S s H locs) {ls : Array Slot} (hl : lv_has ls 3 []) : W p l e ({ frames := 0, cells := 0, slots := 0, locals := 0 } : Room) s m args below meth c H locs 0 0 (MQ below (xQi D cy xmb a S' v' s.heap.size) args s 0 0 (xA xmb a s.heap.size)) (F0 m 14 ls []) := by
  have hx := hM.1
  have hb := hM.2.1
  refine lv_iconst (v := (0 : Int32)) hx hb dX12_in_14 (by decide) ?_
  obtain ⟨hz, h⟩ := xgd_at h
  exact x_ri hM hG hr hlk (x_nz hz) (k0 _ (Option.some.inj h).symm) dX12_in_15
set_option maxHeartbeats 4000000 in
set_option maxRecDepth 100000 in
theorem w_X12_in_0 {x0 : Int32} {x1 : Int32} {x2 : Int32} (hM : xM p c cX12_in m s args RX12 3 D cy xmb a z) (hr : meth.sig.returnType = (some .boolean)) (hlk : meth.locks = false) {S' : xSt} {v' : Int32} {S : xSt} {q : (xSt × Int32)} (h : f_X12_in_0 x0 x1 x2 S = some q) (k0 : ∀ t0 : xSt × Int32, q = t0 → t0 = (S', v')) {H : Heap} {locs : List Loc} (hG : xG D cy xmb a S s H locs) {ls : Array Slot} (hl : lv_has ls 3 [(0, .int x0), (1, .int x1), (2, .int x2)]) : W p l e ({ frames := 0, cells := 0, slots := 0, locals := 0 } : Room) s m args below meth c H locs 0 0 (MQ below (xQi D cy xmb a S' v' s.heap.size) args s 0 0 (xA xmb a s.heap.size)) (F0 m 0 ls []) := by
  have hx := hM.1
  have hb := hM.2.1
  refine lv_iload_n hx hb dX12_in_0 rfl (lv_at hl 0 rfl) ?_
  refine lv_iload_n hx hb dX12_in_1 rfl (lv_at hl 1 rfl) ?_
  refine x_icmp_lt (tgt := 14) hM h dX12_in_2 (by decide) (fun c_1 h => ?_) (fun c_1 h => ?_)
  · exact w_X12_in_14 hM hr hlk h (fun t0 e => k0 t0 e) hG (lv_sub hl [] rfl)
  · refine lv_iload_n hx hb dX12_in_5 rfl (lv_at hl 0 rfl) ?_
    refine lv_iload_n hx hb dX12_in_6 rfl (lv_at hl 2 rfl) ?_
    refine x_icmp_gt (tgt := 14) hM h dX12_in_7 (by decide) (fun c_2 h => ?_) (fun c_2 h => ?_)
    · exact w_X12_in_14 hM hr hlk h (fun t0 e => k0 t0 e) hG (lv_sub hl [] rfl)
    · refine lv_iconst (v := (1 : Int32)) hx hb dX12_in_10 (by decide) ?_
      refine lv_goto (tgt := 15) hx hb dX12_in_11 (by decide) ?_
      obtain ⟨hz, h⟩ := xgd_at h
      exact x_ri hM hG hr hlk (x_nz hz) (k0 _ (Option.some.inj h).symm) dX12_in_15
set_option maxHeartbeats 4000000 in
set_option maxRecDepth 100000 in
theorem c_X12_in {l : Launch} {D : va_G} {cy : Nat → ClassId} {a z : Nat → Nat} (hI : xI xmb a) {S : xSt} {x0 : Int32} {x1 : Int32} {x2 : Int32} {S' : xSt} {v' : Int32} (hf : f_X12_in S x0 x1 x2 = some (S', v')) (sz : Nat) : Met l yX12_in (Cond.code yX12_in cX12_in 3 (some .boolean) :: xTB) ({ frames := 0, cells := 0, slots := 0, locals := 0 } : Room) (va_Pc [.int x0, .int x1, .int x2] (xPre D cy xmb a z S sz)) (xQi D cy xmb a S' v' sz) 0 0 (xA xmb a sz) := by
  refine Met.ofW (cc := cX12_in) (maxL := 3) (ret := (some .boolean)) (by decide) rfl ?_
  intro p e s m args below meth c s₁ B hml hv
  obtain ⟨rfl, hsz, hP, hK, hE⟩ := hv
  subst hsz
  have hl := lv_entry ([.int x0, .int x1, .int x2]) (n := 3) (Nat.le_of_ble_eq_true rfl)
  rw [lg_entry_eq]
  generalize (lg_sl ([.int x0, .int x1, .int x2]) ++ List.replicate (3 - (lg_sl ([.int x0, .int x1, .int x2])).length) Slot.unset).toArray = ls at hl ⊢
  have hl : lv_has ls 3 [(0, .int x0), (1, .int x1), (2, .int x2)] := hl
  exact w_X12_in_0 ⟨B.exec, B.bytes, hml, findClass_of_methodNamed B.named, fun w hw => atoms_spec (ws := Cond.code yX12_in cX12_in 3 (some .boolean) :: xTB) B.pre w (List.mem_cons_of_mem _ hw), hK, hI, hE⟩ B.returns B.notSynchronized hf (fun t0 e => e.symm) ⟨hP, va_S.rf⟩ (lv_sub hl [0, 1, 2] rfl)
set_option maxHeartbeats 4000000 in
set_option maxRecDepth 100000 in
theorem w_X12_has_0 {x0 : Int32} {x1 : Int32} (hM : xM p c cX12_has m s args RX12 2 D cy xmb a z) (hr : meth.sig.returnType = (some .boolean)) (hlk : meth.locks = false) {S' : xSt} {v' : Int32} {S : xSt} {q : (xSt × Int32)} (h : f_X12_has_0 x0 x1 S = some q) (k0 : ∀ t0 : xSt × Int32, q = t0 → t0 = (S', v')) {H : Heap} {locs : List Loc} (hG : xG D cy xmb a S s H locs) {ls : Array Slot} (hl : lv_has ls 2 [(0, .int x0), (1, .int x1)]) : W p l e ({ frames := 0, cells := 0, slots := 0, locals := 0 } : Room) s m args below meth c H locs 0 0 (MQ below (xQi D cy xmb a S' v' s.heap.size) args s 0 0 (xA xmb a s.heap.size)) (F0 m 0 ls []) := by
  have hx := hM.1
  have hb := hM.2.1
  refine lv_iload_n hx hb dX12_has_0 rfl (lv_at hl 0 rfl) ?_
  refine lv_iload_n hx hb dX12_has_1 rfl (lv_at hl 1 rfl) ?_
  refine x_ishr hM h dX12_has_2 (fun v_1 h => ?_)
  refine lv_iconst (v := (1 : Int32)) hx hb dX12_has_3 (by decide) ?_
  refine x_iand hM h dX12_has_4 (fun v_2 h => ?_)
  refine lv_iconst (v := (1 : Int32)) hx hb dX12_has_5 (by decide) ?_
  refine x_icmp_ne (tgt := 13) hM h dX12_has_6 (by decide) (fun c_3 h => ?_) (fun c_3 h => ?_)
  · refine lv_iconst (v := (0 : Int32)) hx hb dX12_has_13 (by decide) ?_
    obtain ⟨hz, h⟩ := xgd_at h
    exact x_ri hM hG hr hlk (x_nz hz) (k0 _ (Option.some.inj h).symm) dX12_has_14
  · refine lv_iconst (v := (1 : Int32)) hx hb dX12_has_9 (by decide) ?_
    refine lv_goto (tgt := 14) hx hb dX12_has_10 (by decide) ?_
    obtain ⟨hz, h⟩ := xgd_at h
    exact x_ri hM hG hr hlk (x_nz hz) (k0 _ (Option.some.inj h).symm) dX12_has_14
set_option maxHeartbeats 4000000 in
set_option maxRecDepth 100000 in
theorem c_X12_has {l : Launch} {D : va_G} {cy : Nat → ClassId} {a z : Nat → Nat} (hI : xI xmb a) {S : xSt} {x0 : Int32} {x1 : Int32} {S' : xSt} {v' : Int32} (hf : f_X12_has S x0 x1 = some (S', v')) (sz : Nat) : Met l yX12_has (Cond.code yX12_has cX12_has 2 (some .boolean) :: xTB) ({ frames := 0, cells := 0, slots := 0, locals := 0 } : Room) (va_Pc [.int x0, .int x1] (xPre D cy xmb a z S sz)) (xQi D cy xmb a S' v' sz) 0 0 (xA xmb a sz) := by
  refine Met.ofW (cc := cX12_has) (maxL := 2) (ret := (some .boolean)) (by decide) rfl ?_
  intro p e s m args below meth c s₁ B hml hv
  obtain ⟨rfl, hsz, hP, hK, hE⟩ := hv
  subst hsz
  have hl := lv_entry ([.int x0, .int x1]) (n := 2) (Nat.le_of_ble_eq_true rfl)
  rw [lg_entry_eq]
  generalize (lg_sl ([.int x0, .int x1]) ++ List.replicate (2 - (lg_sl ([.int x0, .int x1])).length) Slot.unset).toArray = ls at hl ⊢
  have hl : lv_has ls 2 [(0, .int x0), (1, .int x1)] := hl
  exact w_X12_has_0 ⟨B.exec, B.bytes, hml, findClass_of_methodNamed B.named, fun w hw => atoms_spec (ws := Cond.code yX12_has cX12_has 2 (some .boolean) :: xTB) B.pre w (List.mem_cons_of_mem _ hw), hK, hI, hE⟩ B.returns B.notSynchronized hf (fun t0 e => e.symm) ⟨hP, va_S.rf⟩ (lv_sub hl [0, 1] rfl)
set_option maxHeartbeats 4000000 in
set_option maxRecDepth 100000 in
theorem w_X12_bitsOf_4 {x1 : Int32} {x2 : Int32} (hM : xM p c cX12_bitsOf m s args RX12 3 D cy xmb a z) (hr : meth.sig.returnType = (some .int)) (hlk : meth.locks = false) {S' : xSt} {v' : Int32} {S : xSt} {q : ((xSt × Int32 × Int32) ⊕ (xSt × Int32))} (h : f_X12_bitsOf_4 S x1 x2 = some q) (k0 : ∀ t0 : xSt × Int32, q = (.inr t0) → t0 = (S', v')) (k1 : ∀ (S : xSt) (x1 : Int32) (x2 : Int32), q = (.inl (S, x1, x2)) → ∀ (H : Heap) (locs : List Loc) (ls : Array Slot), xG D cy xmb a S s H locs → lv_has ls 3 [(1, .int x1), (2, .int x2)] → W p l e ({ frames := 0, cells := 0, slots := 0, locals := 0 } : Room) s m args below meth c H locs 0 0 (MQ below (xQi D cy xmb a S' v' s.heap.size) args s 0 0 (xA xmb a s.heap.size)) (F0 m 4 ls [])) {H : Heap} {locs : List Loc} (hG : xG D cy xmb a S s H locs) {ls : Array Slot} (hl : lv_has ls 3 [(1, .int x1), (2, .int x2)]) : W p l e ({ frames := 0, cells := 0, slots := 0, locals := 0 } : Room) s m args below meth c H locs 0 0 (MQ below (xQi D cy xmb a S' v' s.heap.size) args s 0 0 (xA xmb a s.heap.size)) (F0 m 4 ls []) := by
  have hx := hM.1
  have hb := hM.2.1
  refine lv_iload_n hx hb dX12_bitsOf_4 rfl (lv_at hl 1 rfl) ?_
  refine x_if_eq (tgt := 20) hM h dX12_bitsOf_5 (by decide) (fun c_1 h => ?_) (fun c_1 h => ?_)
  · refine lv_iload_n hx hb dX12_bitsOf_20 rfl (lv_at hl 0 rfl) ?_
    exact x_ri hM hG hr hlk rfl (k0 _ (Option.some.inj h).symm) dX12_bitsOf_21
  · refine x_iinc hM (fun v => [(1, .int v), (2, .int x2)]) h dX12_bitsOf_8 hl (k := 0) rfl (by decide) (by decide) (fun _ => rfl) (fun v_2 ls h hl => ?_)
    refine lv_iload_n hx hb dX12_bitsOf_11 rfl (lv_at hl 1 rfl) ?_
    refine lv_iload_n hx hb dX12_bitsOf_12 rfl (lv_at hl 1 rfl) ?_
    refine lv_iconst (v := (1 : Int32)) hx hb dX12_bitsOf_13 (by decide) ?_
    refine x_isub hM h dX12_bitsOf_14 (fun v_3 h => ?_)
    refine x_iand hM h dX12_bitsOf_15 (fun v_4 h => ?_)
    refine lv_istore_n (lv' := [(2, .int v_4), (1, .int v_2)]) hx hb dX12_bitsOf_16 rfl hl (by decide) rfl (fun ls hl => ?_)
    refine lv_goto (tgt := 4) hx hb dX12_bitsOf_17 (by decide) ?_
    exact k1 _ _ _ (Option.some.inj h).symm _ _ _ hG (lv_sub hl [1, 0] rfl)
theorem wl_X12_bitsOf_4 (hM : xM p c cX12_bitsOf m s args RX12 3 D cy xmb a z) (hr : meth.sig.returnType = (some .int)) (hlk : meth.locks = false) {S' : xSt} {v' : Int32} {q : (xSt × Int32)} (k0 : ∀ t0 : xSt × Int32, q = t0 → t0 = (S', v')) (n : Nat) : ∀ (S : xSt) (x1 : Int32) (x2 : Int32) (H : Heap) (locs : List Loc) (ls : Array Slot), xlp (fun q : (xSt × Int32 × Int32) => f_X12_bitsOf_4 q.1 q.2.1 q.2.2) n (S, x1, x2) = some q → xG D cy xmb a S s H locs → lv_has ls 3 [(1, .int x1), (2, .int x2)] → W p l e ({ frames := 0, cells := 0, slots := 0, locals := 0 } : Room) s m args below meth c H locs 0 0 (MQ below (xQi D cy xmb a S' v' s.heap.size) args s 0 0 (xA xmb a s.heap.size)) (F0 m 4 ls []) := by
  induction n with
  | zero => intro S x1 x2 H locs ls h; exact (xlp_0 h).elim
  | succ n ih =>
    intro S x1 x2 H locs ls h hG hl
    obtain ⟨q1, hq, hc, he⟩ := xlp_at h
    exact w_X12_bitsOf_4 hM hr hlk (q := q1) hq (fun t0 e => k0 t0 (he _ e).symm) (fun S x1 x2 e H locs ls hG hl => ih S x1 x2 H locs ls (hc _ e) hG hl) hG hl
set_option maxHeartbeats 4000000 in
set_option maxRecDepth 100000 in
theorem w_X12_bitsOf_0 {x0 : Int32} (hM : xM p c cX12_bitsOf m s args RX12 3 D cy xmb a z) (hr : meth.sig.returnType = (some .int)) (hlk : meth.locks = false) {S' : xSt} {v' : Int32} {S : xSt} {q : (xSt × Int32)} (h : f_X12_bitsOf_0 x0 S = some q) (k0 : ∀ t0 : xSt × Int32, q = t0 → t0 = (S', v')) {H : Heap} {locs : List Loc} (hG : xG D cy xmb a S s H locs) {ls : Array Slot} (hl : lv_has ls 3 [(0, .int x0)]) : W p l e ({ frames := 0, cells := 0, slots := 0, locals := 0 } : Room) s m args below meth c H locs 0 0 (MQ below (xQi D cy xmb a S' v' s.heap.size) args s 0 0 (xA xmb a s.heap.size)) (F0 m 0 ls []) := by
  have hx := hM.1
  have hb := hM.2.1
  refine lv_iconst (v := (0 : Int32)) hx hb dX12_bitsOf_0 (by decide) ?_
  refine lv_istore_n (lv' := [(1, .int (0 : Int32)), (0, .int x0)]) hx hb dX12_bitsOf_1 rfl hl (by decide) rfl (fun ls hl => ?_)
  refine lv_iload_n hx hb dX12_bitsOf_2 rfl (lv_at hl 1 rfl) ?_
  refine lv_istore_n (lv' := [(2, .int x0), (1, .int (0 : Int32)), (0, .int x0)]) hx hb dX12_bitsOf_3 rfl hl (by decide) rfl (fun ls hl => ?_)
  exact wl_X12_bitsOf_4 hM hr hlk (fun t0 e => k0 t0 e) 5000 _ _ _ _ _ _ h hG (lv_sub hl [1, 0] rfl)
set_option maxHeartbeats 4000000 in
set_option maxRecDepth 100000 in
theorem c_X12_bitsOf {l : Launch} {D : va_G} {cy : Nat → ClassId} {a z : Nat → Nat} (hI : xI xmb a) {S : xSt} {x0 : Int32} {S' : xSt} {v' : Int32} (hf : f_X12_bitsOf S x0 = some (S', v')) (sz : Nat) : Met l yX12_bitsOf (Cond.code yX12_bitsOf cX12_bitsOf 3 (some .int) :: xTB) ({ frames := 0, cells := 0, slots := 0, locals := 0 } : Room) (va_Pc [.int x0] (xPre D cy xmb a z S sz)) (xQi D cy xmb a S' v' sz) 0 0 (xA xmb a sz) := by
  refine Met.ofW (cc := cX12_bitsOf) (maxL := 3) (ret := (some .int)) (by decide) rfl ?_
  intro p e s m args below meth c s₁ B hml hv
  obtain ⟨rfl, hsz, hP, hK, hE⟩ := hv
  subst hsz
  have hl := lv_entry ([.int x0]) (n := 3) (Nat.le_of_ble_eq_true rfl)
  rw [lg_entry_eq]
  generalize (lg_sl ([.int x0]) ++ List.replicate (3 - (lg_sl ([.int x0])).length) Slot.unset).toArray = ls at hl ⊢
  have hl : lv_has ls 3 [(0, .int x0)] := hl
  exact w_X12_bitsOf_0 ⟨B.exec, B.bytes, hml, findClass_of_methodNamed B.named, fun w hw => atoms_spec (ws := Cond.code yX12_bitsOf cX12_bitsOf 3 (some .int) :: xTB) B.pre w (List.mem_cons_of_mem _ hw), hK, hI, hE⟩ B.returns B.notSynchronized hf (fun t0 e => e.symm) ⟨hP, va_S.rf⟩ (lv_sub hl [0] rfl)
set_option maxHeartbeats 4000000 in
set_option maxRecDepth 100000 in
theorem w_X12_isColumn_0 {x0 : Int32} (hM : xM p c cX12_isColumn m s args RX12 1 D cy xmb a z) (hr : meth.sig.returnType = (some .boolean)) (hlk : meth.locks = false) {S' : xSt} {v' : Int32} {S : xSt} {q : (xSt × Int32)} (h : f_X12_isColumn_0 x0 S = some q) (k0 : ∀ t0 : xSt × Int32, q = t0 → t0 = (S', v')) {H : Heap} {locs : List Loc} (hG : xG D cy xmb a S s H locs) {ls : Array Slot} (hl : lv_has ls 1 [(0, .int x0)]) : W p l e ({ frames := 1, cells := 0, slots := 0, locals := 22 } : Room) s m args below meth c H locs 0 0 (MQ below (xQi D cy xmb a S' v' s.heap.size) args s 0 0 (xA xmb a s.heap.size)) (F0 m 0 ls []) := by
  have hx := hM.1
  have hb := hM.2.1
  refine lv_iload_n hx hb dX12_isColumn_0 rfl (lv_at hl 0 rfl) ?_
  refine lv_iconst (v := (0 : Int32)) hx hb dX12_isColumn_1 (by decide) ?_
  refine lv_iconst (v := (5 : Int32)) hx hb dX12_isColumn_2 (by decide) ?_
  refine x_cSi (As := [.int x0, .int (0 : Int32), .int (5 : Int32)]) (rest := []) hM hG xml_X12_142 xwt_X12_in h (fun S' v e => c_X12_in hM.2.2.2.2.2.2.1 e _) ⟨Nat.le_of_ble_eq_true rfl, Nat.le_of_ble_eq_true rfl⟩ rfl hl.1 rfl (Nat.le_of_ble_eq_true rfl) dX12_isColumn_3 (fun S_1 v_2 H locs h hG => ?_)
  obtain ⟨hz, h⟩ := xgd_at h
  exact x_ri hM hG hr hlk (x_nz hz) (k0 _ (Option.some.inj h).symm) dX12_isColumn_6
set_option maxHeartbeats 4000000 in
set_option maxRecDepth 100000 in
theorem c_X12_isColumn {l : Launch} {D : va_G} {cy : Nat → ClassId} {a z : Nat → Nat} (hI : xI xmb a) {S : xSt} {x0 : Int32} {S' : xSt} {v' : Int32} (hf : f_X12_isColumn S x0 = some (S', v')) (sz : Nat) : Met l yX12_isColumn (Cond.code yX12_isColumn cX12_isColumn 1 (some .boolean) :: xTB) ({ frames := 1, cells := 0, slots := 0, locals := 22 } : Room) (va_Pc [.int x0] (xPre D cy xmb a z S sz)) (xQi D cy xmb a S' v' sz) 0 0 (xA xmb a sz) := by
  refine Met.ofW (cc := cX12_isColumn) (maxL := 1) (ret := (some .boolean)) (by decide) rfl ?_
  intro p e s m args below meth c s₁ B hml hv
  obtain ⟨rfl, hsz, hP, hK, hE⟩ := hv
  subst hsz
  have hl := lv_entry ([.int x0]) (n := 1) (Nat.le_of_ble_eq_true rfl)
  rw [lg_entry_eq]
  generalize (lg_sl ([.int x0]) ++ List.replicate (1 - (lg_sl ([.int x0])).length) Slot.unset).toArray = ls at hl ⊢
  have hl : lv_has ls 1 [(0, .int x0)] := hl
  exact w_X12_isColumn_0 ⟨B.exec, B.bytes, hml, findClass_of_methodNamed B.named, fun w hw => atoms_spec (ws := Cond.code yX12_isColumn cX12_isColumn 1 (some .boolean) :: xTB) B.pre w (List.mem_cons_of_mem _ hw), hK, hI, hE⟩ B.returns B.notSynchronized hf (fun t0 e => e.symm) ⟨hP, va_S.rf⟩ (lv_sub hl [0] rfl)
set_option maxHeartbeats 4000000 in
set_option maxRecDepth 100000 in
theorem w_X12_isCell_28 (hM : xM p c cX12_isCell m s args RX12 2 D cy xmb a z) (hr : meth.sig.returnType = (some .boolean)) (hlk : meth.locks = false) {S' : xSt} {v' : Int32} {S : xSt} {q : (xSt × Int32)} (h : f_X12_isCell_28 S = some q) (k0 : ∀ t0 : xSt × Int32, q = t0 → t0 = (S', v')) {H : Heap} {locs : List Loc} (hG : xG D cy xmb a S s H locs) {ls : Array Slot} (hl : lv_has ls 2 []) : W p l e ({ frames := 1, cells := 0, slots := 0, locals := 22 } : Room) s m args below meth c H locs 0 0 (MQ below (xQi D cy xmb a S' v' s.heap.size) args s 0 0 (xA xmb a s.heap.size)) (F0 m 28 ls []) := by
  have hx := hM.1
  have hb := hM.2.1
  refine lv_iconst (v := (0 : Int32)) hx hb dX12_isCell_28 (by decide) ?_
  obtain ⟨hz, h⟩ := xgd_at h
  exact x_ri hM hG hr hlk (x_nz hz) (k0 _ (Option.some.inj h).symm) dX12_isCell_29
set_option maxHeartbeats 4000000 in
set_option maxRecDepth 100000 in
theorem w_X12_isCell_0 {x1 : Int32} (hM : xM p c cX12_isCell m s args RX12 2 D cy xmb a z) (hr : meth.sig.returnType = (some .boolean)) (hlk : meth.locks = false) {S' : xSt} {v' : Int32} {S : xSt} {q : (xSt × Int32)} (h : f_X12_isCell_0 x1 S = some q) (k0 : ∀ t0 : xSt × Int32, q = t0 → t0 = (S', v')) {H : Heap} {locs : List Loc} (hG : xG D cy xmb a S s H locs) {ls : Array Slot} (hl : lv_has ls 2 [(0, .ref (a 0)), (1, .int x1)]) : W p l e ({ frames := 1, cells := 0, slots := 0, locals := 22 } : Room) s m args below meth c H locs 0 0 (MQ below (xQi D cy xmb a S' v' s.heap.size) args s 0 0 (xA xmb a s.heap.size)) (F0 m 0 ls []) := by
  have hx := hM.1
  have hb := hM.2.1
  refine lv_iload_n hx hb dX12_isCell_0 rfl (lv_at hl 1 rfl) ?_
  refine lv_iconst (v := (0 : Int32)) hx hb dX12_isCell_1 (by decide) ?_
  refine lv_bipush (v := (29 : Int32)) hx hb dX12_isCell_2 (by decide) ?_
  refine x_cSi (As := [.int x1, .int (0 : Int32), .int (29 : Int32)]) (rest := []) hM hG xml_X12_142 xwt_X12_in h (fun S' v e => c_X12_in hM.2.2.2.2.2.2.1 e _) ⟨Nat.le_of_ble_eq_true rfl, Nat.le_of_ble_eq_true rfl⟩ rfl hl.1 rfl (Nat.le_of_ble_eq_true rfl) dX12_isCell_4 (fun S_1 v_2 H locs h hG => ?_)
  refine x_if_eq (tgt := 28) hM h dX12_isCell_7 (by decide) (fun c_3 h => ?_) (fun c_3 h => ?_)
  · exact w_X12_isCell_28 hM hr hlk h (fun t0 e => k0 t0 e) hG (lv_sub hl [] rfl)
  · refine lv_iload_n hx hb dX12_isCell_10 rfl (lv_at hl 1 rfl) ?_
    refine lv_iconst (v := (5 : Int32)) hx hb dX12_isCell_11 (by decide) ?_
    refine x_irem hM h dX12_isCell_12 (fun v_4 h => ?_)
    refine lv_aload_n hx hb dX12_isCell_13 rfl (lv_at hl 0 rfl) ?_
    refine x_gr (r := 1) hM hG xfl_X12_9 xmt_0 (by decide) rfl dX12_isCell_14 ?_
    refine lv_iload_n hx hb dX12_isCell_17 rfl (lv_at hl 1 rfl) ?_
    refine lv_iconst (v := (5 : Int32)) hx hb dX12_isCell_18 (by decide) ?_
    refine x_idiv hM h dX12_isCell_19 (fun v_5 h => ?_)
    refine x_iald hM hG xmt_1 h dX12_isCell_20 (fun v_6 h => ?_)
    refine x_icmp_ge (tgt := 28) hM h dX12_isCell_21 (by decide) (fun c_7 h => ?_) (fun c_7 h => ?_)
    · exact w_X12_isCell_28 hM hr hlk h (fun t0 e => k0 t0 e) hG (lv_sub hl [] rfl)
    · refine lv_iconst (v := (1 : Int32)) hx hb dX12_isCell_24 (by decide) ?_
      refine lv_goto (tgt := 29) hx hb dX12_isCell_25 (by decide) ?_
      obtain ⟨hz, h⟩ := xgd_at h
      exact x_ri hM hG hr hlk (x_nz hz) (k0 _ (Option.some.inj h).symm) dX12_isCell_29
set_option maxHeartbeats 4000000 in
set_option maxRecDepth 100000 in
theorem c_X12_isCell {l : Launch} {D : va_G} {cy : Nat → ClassId} {a z : Nat → Nat} (hI : xI xmb a) {S : xSt} {x1 : Int32} {S' : xSt} {v' : Int32} (hf : f_X12_isCell S x1 = some (S', v')) (sz : Nat) : Met l yX12_isCell (Cond.code yX12_isCell cX12_isCell 2 (some .boolean) :: xTB) ({ frames := 1, cells := 0, slots := 0, locals := 22 } : Room) (va_Pc [.ref (a 0), .int x1] (xPre D cy xmb a z S sz)) (xQi D cy xmb a S' v' sz) 0 0 (xA xmb a sz) := by
  refine Met.ofW (cc := cX12_isCell) (maxL := 2) (ret := (some .boolean)) (by decide) rfl ?_
  intro p e s m args below meth c s₁ B hml hv
  obtain ⟨rfl, hsz, hP, hK, hE⟩ := hv
  subst hsz
  have hl := lv_entry ([.ref (a 0), .int x1]) (n := 2) (Nat.le_of_ble_eq_true rfl)
  rw [lg_entry_eq]
  generalize (lg_sl ([.ref (a 0), .int x1]) ++ List.replicate (2 - (lg_sl ([.ref (a 0), .int x1])).length) Slot.unset).toArray = ls at hl ⊢
  have hl : lv_has ls 2 [(0, .ref (a 0)), (1, .int x1)] := hl
  exact w_X12_isCell_0 ⟨B.exec, B.bytes, hml, findClass_of_methodNamed B.named, fun w hw => atoms_spec (ws := Cond.code yX12_isCell cX12_isCell 2 (some .boolean) :: xTB) B.pre w (List.mem_cons_of_mem _ hw), hK, hI, hE⟩ B.returns B.notSynchronized hf (fun t0 e => e.symm) ⟨hP, va_S.rf⟩ (lv_sub hl [0, 1] rfl)
set_option maxHeartbeats 4000000 in
set_option maxRecDepth 100000 in
theorem w_X12_addLoad_0 {x1 : Int32} {x2 : Int32} {x3 : Int32} (hM : xM p c cX12_addLoad m s args RX12 5 D cy xmb a z) (hr : meth.sig.returnType = (some .int)) (hlk : meth.locks = false) {S' : xSt} {v' : Int32} {S : xSt} {q : (xSt × Int32)} (h : f_X12_addLoad_0 x1 x2 x3 S = some q) (k0 : ∀ t0 : xSt × Int32, q = t0 → t0 = (S', v')) {H : Heap} {locs : List Loc} (hG : xG D cy xmb a S s H locs) {ls : Array Slot} (hl : lv_has ls 5 [(0, .ref (a 0)), (1, .int x1), (2, .int x2), (3, .int x3)]) : W p l e ({ frames := 0, cells := 0, slots := 0, locals := 0 } : Room) s m args below meth c H locs 0 0 (MQ below (xQi D cy xmb a S' v' s.heap.size) args s 0 0 (xA xmb a s.heap.size)) (F0 m 0 ls []) := by
  have hx := hM.1
  have hb := hM.2.1
  refine lv_iconst (v := (5 : Int32)) hx hb dX12_addLoad_0 (by decide) ?_
  refine lv_iload_n hx hb dX12_addLoad_1 rfl (lv_at hl 1 rfl) ?_
  refine x_imul hM h dX12_addLoad_2 (fun v_1 h => ?_)
  refine lv_aload_n hx hb dX12_addLoad_3 rfl (lv_at hl 0 rfl) ?_
  refine x_gr (r := 1) hM hG xfl_X12_9 xmt_0 (by decide) rfl dX12_addLoad_4 ?_
  refine lv_iload_n hx hb dX12_addLoad_7 rfl (lv_at hl 1 rfl) ?_
  refine x_iald hM hG xmt_1 h dX12_addLoad_8 (fun v_2 h => ?_)
  refine x_iadd hM h dX12_addLoad_9 (fun v_3 h => ?_)
  refine lv_istore (lv' := [(4, .int v_3), (0, .ref (a 0)), (1, .int x1), (2, .int x2), (3, .int x3)]) hx hb dX12_addLoad_10 hl (by decide) rfl (fun ls hl => ?_)
  refine lv_aload_n hx hb dX12_addLoad_12 rfl (lv_at hl 1 rfl) ?_
  refine x_gr (r := 2) hM hG xfl_X12_15 xmt_0 (by decide) rfl dX12_addLoad_13 ?_
  refine lv_iload hx hb dX12_addLoad_16 (lv_at hl 0 rfl) ?_
  refine lv_iload_n hx hb dX12_addLoad_18 rfl (lv_at hl 3 rfl) ?_
  refine x_iast hM hG xmt_2 h dX12_addLoad_19 (fun S_4 H locs h hG => ?_)
  refine lv_aload_n hx hb dX12_addLoad_20 rfl (lv_at hl 1 rfl) ?_
  refine x_gr (r := 3) hM hG xfl_X12_18 xmt_0 (by decide) rfl dX12_addLoad_21 ?_
  refine lv_iload hx hb dX12_addLoad_24 (lv_at hl 0 rfl) ?_
  refine lv_bipush (v := (20 : Int32)) hx hb dX12_addLoad_26 (by decide) ?_
  refine x_iast hM hG xmt_3 h dX12_addLoad_28 (fun S_5 H locs h hG => ?_)
  refine lv_aload_n hx hb dX12_addLoad_29 rfl (lv_at hl 1 rfl) ?_
  refine x_gr (r := 4) hM hG xfl_X12_21 xmt_0 (by decide) rfl dX12_addLoad_30 ?_
  refine lv_iload hx hb dX12_addLoad_33 (lv_at hl 0 rfl) ?_
  refine lv_bipush (v := (99 : Int32)) hx hb dX12_addLoad_35 (by decide) ?_
  refine x_iast hM hG xmt_4 h dX12_addLoad_37 (fun S_6 H locs h hG => ?_)
  refine lv_aload_n hx hb dX12_addLoad_38 rfl (lv_at hl 1 rfl) ?_
  refine x_gr (r := 5) hM hG xfl_X12_24 xmt_0 (by decide) rfl dX12_addLoad_39 ?_
  refine lv_iload hx hb dX12_addLoad_42 (lv_at hl 0 rfl) ?_
  refine lv_iconst (v := (0 : Int32)) hx hb dX12_addLoad_44 (by decide) ?_
  refine x_iast hM hG xmt_5 h dX12_addLoad_45 (fun S_7 H locs h hG => ?_)
  refine lv_aload_n hx hb dX12_addLoad_46 rfl (lv_at hl 1 rfl) ?_
  refine x_gr (r := 6) hM hG xfl_X12_27 xmt_0 (by decide) rfl dX12_addLoad_47 ?_
  refine lv_iload hx hb dX12_addLoad_50 (lv_at hl 0 rfl) ?_
  refine lv_iload_n hx hb dX12_addLoad_52 rfl (lv_at hl 4 rfl) ?_
  refine x_iast hM hG xmt_6 h dX12_addLoad_53 (fun S_8 H locs h hG => ?_)
  refine lv_aload_n hx hb dX12_addLoad_54 rfl (lv_at hl 1 rfl) ?_
  refine x_gr (r := 1) hM hG xfl_X12_9 xmt_0 (by decide) rfl dX12_addLoad_55 ?_
  refine lv_iload_n hx hb dX12_addLoad_58 rfl (lv_at hl 2 rfl) ?_
  refine lv_dup2_11 hx hb dX12_addLoad_59 rfl rfl ?_
  refine x_iald hM hG xmt_1 h dX12_addLoad_60 (fun v_9 h => ?_)
  refine lv_iconst (v := (1 : Int32)) hx hb dX12_addLoad_61 (by decide) ?_
  refine x_iadd hM h dX12_addLoad_62 (fun v_10 h => ?_)
  refine x_iast hM hG xmt_1 h dX12_addLoad_63 (fun S_11 H locs h hG => ?_)
  refine lv_aload_n hx hb dX12_addLoad_64 rfl (lv_at hl 1 rfl) ?_
  refine x_gr (r := 9) hM hG xfl_X12_36 xmt_0 (by decide) rfl dX12_addLoad_65 ?_
  refine lv_iconst (v := (0 : Int32)) hx hb dX12_addLoad_68 (by decide) ?_
  refine lv_dup2_11 hx hb dX12_addLoad_69 rfl rfl ?_
  refine x_iald hM hG xmt_9 h dX12_addLoad_70 (fun v_12 h => ?_)
  refine lv_iconst (v := (1 : Int32)) hx hb dX12_addLoad_71 (by decide) ?_
  refine x_iadd hM h dX12_addLoad_72 (fun v_13 h => ?_)
  refine x_iast hM hG xmt_9 h dX12_addLoad_73 (fun S_14 H locs h hG => ?_)
  refine lv_iload hx hb dX12_addLoad_74 (lv_at hl 0 rfl) ?_
  exact x_ri hM hG hr hlk rfl (k0 _ (Option.some.inj h).symm) dX12_addLoad_76
set_option maxHeartbeats 4000000 in
set_option maxRecDepth 100000 in
theorem c_X12_addLoad {l : Launch} {D : va_G} {cy : Nat → ClassId} {a z : Nat → Nat} (hI : xI xmb a) {S : xSt} {x1 : Int32} {x2 : Int32} {x3 : Int32} {S' : xSt} {v' : Int32} (hf : f_X12_addLoad S x1 x2 x3 = some (S', v')) (sz : Nat) : Met l yX12_addLoad (Cond.code yX12_addLoad cX12_addLoad 5 (some .int) :: xTB) ({ frames := 0, cells := 0, slots := 0, locals := 0 } : Room) (va_Pc [.ref (a 0), .int x1, .int x2, .int x3] (xPre D cy xmb a z S sz)) (xQi D cy xmb a S' v' sz) 0 0 (xA xmb a sz) := by
  refine Met.ofW (cc := cX12_addLoad) (maxL := 5) (ret := (some .int)) (by decide) rfl ?_
  intro p e s m args below meth c s₁ B hml hv
  obtain ⟨rfl, hsz, hP, hK, hE⟩ := hv
  subst hsz
  have hl := lv_entry ([.ref (a 0), .int x1, .int x2, .int x3]) (n := 5) (Nat.le_of_ble_eq_true rfl)
  rw [lg_entry_eq]
  generalize (lg_sl ([.ref (a 0), .int x1, .int x2, .int x3]) ++ List.replicate (5 - (lg_sl ([.ref (a 0), .int x1, .int x2, .int x3])).length) Slot.unset).toArray = ls at hl ⊢
  have hl : lv_has ls 5 [(0, .ref (a 0)), (1, .int x1), (2, .int x2), (3, .int x3)] := hl
  exact w_X12_addLoad_0 ⟨B.exec, B.bytes, hml, findClass_of_methodNamed B.named, fun w hw => atoms_spec (ws := Cond.code yX12_addLoad cX12_addLoad 5 (some .int) :: xTB) B.pre w (List.mem_cons_of_mem _ hw), hK, hI, hE⟩ B.returns B.notSynchronized hf (fun t0 e => e.symm) ⟨hP, va_S.rf⟩ (lv_sub hl [0, 1, 2, 3] rfl)
set_option maxHeartbeats 4000000 in
set_option maxRecDepth 100000 in
theorem w_X12_cart_0 {x1 : Int32} {x2 : Int32} (hM : xM p c cX12_cart m s args RX12 3 D cy xmb a z) (hr : meth.sig.returnType = (some .int)) (hlk : meth.locks = false) {S' : xSt} {v' : Int32} {S : xSt} {q : (xSt × Int32)} (h : f_X12_cart_0 x1 x2 S = some q) (k0 : ∀ t0 : xSt × Int32, q = t0 → t0 = (S', v')) {H : Heap} {locs : List Loc} (hG : xG D cy xmb a S s H locs) {ls : Array Slot} (hl : lv_has ls 3 [(0, .ref (a 0)), (1, .int x1), (2, .int x2)]) : W p l e ({ frames := 2, cells := 0, slots := 0, locals := 42 } : Room) s m args below meth c H locs 0 0 (MQ below (xQi D cy xmb a S' v' s.heap.size) args s 0 0 (xA xmb a s.heap.size)) (F0 m 0 ls []) := by
  have hx := hM.1
  have hb := hM.2.1
  refine lv_iload_n hx hb dX12_cart_0 rfl (lv_at hl 1 rfl) ?_
  refine x_cSi (As := [.int x1]) (rest := []) hM hG xml_X12_146 xwt_X12_isColumn h (fun S' v e => c_X12_isColumn hM.2.2.2.2.2.2.1 e _) ⟨Nat.le_of_ble_eq_true rfl, Nat.le_of_ble_eq_true rfl⟩ rfl hl.1 rfl (Nat.le_of_ble_eq_true rfl) dX12_cart_1 (fun S_1 v_2 H locs h hG => ?_)
  refine x_if_eq (tgt := 17) hM h dX12_cart_4 (by decide) (fun c_3 h => ?_) (fun c_3 h => ?_)
  · refine lv_iconst (v := (-1 : Int32)) hx hb dX12_cart_17 (by decide) ?_
    exact x_ri hM hG hr hlk rfl (k0 _ (Option.some.inj h).symm) dX12_cart_18
  · refine lv_iload_n hx hb dX12_cart_7 rfl (lv_at hl 2 rfl) ?_
    refine lv_iconst (v := (0 : Int32)) hx hb dX12_cart_8 (by decide) ?_
    refine lv_bipush (v := (99 : Int32)) hx hb dX12_cart_9 (by decide) ?_
    refine x_cSi (As := [.int x2, .int (0 : Int32), .int (99 : Int32)]) (rest := []) hM hG xml_X12_142 xwt_X12_in h (fun S' v e => c_X12_in hM.2.2.2.2.2.2.1 e _) ⟨Nat.le_of_ble_eq_true rfl, Nat.le_of_ble_eq_true rfl⟩ rfl hl.1 rfl (Nat.le_of_ble_eq_true rfl) dX12_cart_11 (fun S_4 v_5 H locs h hG => ?_)
    refine x_if_ne (tgt := 19) hM h dX12_cart_14 (by decide) (fun c_6 h => ?_) (fun c_6 h => ?_)
    · refine lv_aload_n hx hb dX12_cart_19 rfl (lv_at hl 0 rfl) ?_
      refine x_gr (r := 1) hM hG xfl_X12_9 xmt_0 (by decide) rfl dX12_cart_20 ?_
      refine lv_iload_n hx hb dX12_cart_23 rfl (lv_at hl 1 rfl) ?_
      refine x_iald hM hG xmt_1 h dX12_cart_24 (fun v_7 h => ?_)
      refine lv_iconst (v := (5 : Int32)) hx hb dX12_cart_25 (by decide) ?_
      refine x_icmp_ne (tgt := 34) hM h dX12_cart_26 (by decide) (fun c_8 h => ?_) (fun c_8 h => ?_)
      · refine lv_aload_n hx hb dX12_cart_34 rfl (lv_at hl 0 rfl) ?_
        refine lv_iload_n hx hb dX12_cart_35 rfl (lv_at hl 1 rfl) ?_
        refine lv_iload_n hx hb dX12_cart_36 rfl (lv_at hl 2 rfl) ?_
        refine lv_bipush (v := (10 : Int32)) hx hb dX12_cart_37 (by decide) ?_
        refine x_idiv hM h dX12_cart_39 (fun v_9 h => ?_)
        refine lv_iload_n hx hb dX12_cart_40 rfl (lv_at hl 2 rfl) ?_
        refine lv_bipush (v := (10 : Int32)) hx hb dX12_cart_41 (by decide) ?_
        refine x_irem hM h dX12_cart_43 (fun v_10 h => ?_)
        refine x_cVi (As := [.int x1, .int v_9, .int v_10]) (rest := []) hM hG xml_X12_150 xwi_X12_addLoad xws_X12_addLoad xmt_0 (by decide) rfl h (fun S' v e => c_X12_addLoad hM.2.2.2.2.2.2.1 e _) ⟨Nat.le_of_ble_eq_true rfl, Nat.le_of_ble_eq_true rfl⟩ rfl hl.1 rfl (Nat.le_of_ble_eq_true rfl) dX12_cart_44 (fun S_11 v_12 H locs h hG => ?_)
        exact x_ri hM hG hr hlk rfl (k0 _ (Option.some.inj h).symm) dX12_cart_47
      · refine lv_bipush (v := (-3 : Int32)) hx hb dX12_cart_29 (by decide) ?_
        refine lv_goto (tgt := 47) hx hb dX12_cart_31 (by decide) ?_
        exact x_ri hM hG hr hlk rfl (k0 _ (Option.some.inj h).symm) dX12_cart_47
    · refine lv_iconst (v := (-1 : Int32)) hx hb dX12_cart_17 (by decide) ?_
      exact x_ri hM hG hr hlk rfl (k0 _ (Option.some.inj h).symm) dX12_cart_18
set_option maxHeartbeats 4000000 in
set_option maxRecDepth 100000 in
theorem c_X12_cart {l : Launch} {D : va_G} {cy : Nat → ClassId} {a z : Nat → Nat} (hI : xI xmb a) {S : xSt} {x1 : Int32} {x2 : Int32} {S' : xSt} {v' : Int32} (hf : f_X12_cart S x1 x2 = some (S', v')) (sz : Nat) : Met l yX12_cart (Cond.code yX12_cart cX12_cart 3 (some .int) :: xTB) ({ frames := 2, cells := 0, slots := 0, locals := 42 } : Room) (va_Pc [.ref (a 0), .int x1, .int x2] (xPre D cy xmb a z S sz)) (xQi D cy xmb a S' v' sz) 0 0 (xA xmb a sz) := by
  refine Met.ofW (cc := cX12_cart) (maxL := 3) (ret := (some .int)) (by decide) rfl ?_
  intro p e s m args below meth c s₁ B hml hv
  obtain ⟨rfl, hsz, hP, hK, hE⟩ := hv
  subst hsz
  have hl := lv_entry ([.ref (a 0), .int x1, .int x2]) (n := 3) (Nat.le_of_ble_eq_true rfl)
  rw [lg_entry_eq]
  generalize (lg_sl ([.ref (a 0), .int x1, .int x2]) ++ List.replicate (3 - (lg_sl ([.ref (a 0), .int x1, .int x2])).length) Slot.unset).toArray = ls at hl ⊢
  have hl : lv_has ls 3 [(0, .ref (a 0)), (1, .int x1), (2, .int x2)] := hl
  exact w_X12_cart_0 ⟨B.exec, B.bytes, hml, findClass_of_methodNamed B.named, fun w hw => atoms_spec (ws := Cond.code yX12_cart cX12_cart 3 (some .int) :: xTB) B.pre w (List.mem_cons_of_mem _ hw), hK, hI, hE⟩ B.returns B.notSynchronized hf (fun t0 e => e.symm) ⟨hP, va_S.rf⟩ (lv_sub hl [0, 1, 2] rfl)
set_option maxHeartbeats 4000000 in
set_option maxRecDepth 100000 in
theorem w_X12_isShelf_0 {x0 : Int32} (hM : xM p c cX12_isShelf m s args RX12 1 D cy xmb a z) (hr : meth.sig.returnType = (some .boolean)) (hlk : meth.locks = false) {S' : xSt} {v' : Int32} {S : xSt} {q : (xSt × Int32)} (h : f_X12_isShelf_0 x0 S = some q) (k0 : ∀ t0 : xSt × Int32, q = t0 → t0 = (S', v')) {H : Heap} {locs : List Loc} (hG : xG D cy xmb a S s H locs) {ls : Array Slot} (hl : lv_has ls 1 [(0, .int x0)]) : W p l e ({ frames := 1, cells := 0, slots := 0, locals := 22 } : Room) s m args below meth c H locs 0 0 (MQ below (xQi D cy xmb a S' v' s.heap.size) args s 0 0 (xA xmb a s.heap.size)) (F0 m 0 ls []) := by
  have hx := hM.1
  have hb := hM.2.1
  refine lv_iload_n hx hb dX12_isShelf_0 rfl (lv_at hl 0 rfl) ?_
  refine lv_iconst (v := (0 : Int32)) hx hb dX12_isShelf_1 (by decide) ?_
  refine lv_iconst (v := (5 : Int32)) hx hb dX12_isShelf_2 (by decide) ?_
  refine x_cSi (As := [.int x0, .int (0 : Int32), .int (5 : Int32)]) (rest := []) hM hG xml_X12_142 xwt_X12_in h (fun S' v e => c_X12_in hM.2.2.2.2.2.2.1 e _) ⟨Nat.le_of_ble_eq_true rfl, Nat.le_of_ble_eq_true rfl⟩ rfl hl.1 rfl (Nat.le_of_ble_eq_true rfl) dX12_isShelf_3 (fun S_1 v_2 H locs h hG => ?_)
  obtain ⟨hz, h⟩ := xgd_at h
  exact x_ri hM hG hr hlk (x_nz hz) (k0 _ (Option.some.inj h).symm) dX12_isShelf_6
set_option maxHeartbeats 4000000 in
set_option maxRecDepth 100000 in
theorem c_X12_isShelf {l : Launch} {D : va_G} {cy : Nat → ClassId} {a z : Nat → Nat} (hI : xI xmb a) {S : xSt} {x0 : Int32} {S' : xSt} {v' : Int32} (hf : f_X12_isShelf S x0 = some (S', v')) (sz : Nat) : Met l yX12_isShelf (Cond.code yX12_isShelf cX12_isShelf 1 (some .boolean) :: xTB) ({ frames := 1, cells := 0, slots := 0, locals := 22 } : Room) (va_Pc [.int x0] (xPre D cy xmb a z S sz)) (xQi D cy xmb a S' v' sz) 0 0 (xA xmb a sz) := by
  refine Met.ofW (cc := cX12_isShelf) (maxL := 1) (ret := (some .boolean)) (by decide) rfl ?_
  intro p e s m args below meth c s₁ B hml hv
  obtain ⟨rfl, hsz, hP, hK, hE⟩ := hv
  subst hsz
  have hl := lv_entry ([.int x0]) (n := 1) (Nat.le_of_ble_eq_true rfl)
  rw [lg_entry_eq]
  generalize (lg_sl ([.int x0]) ++ List.replicate (1 - (lg_sl ([.int x0])).length) Slot.unset).toArray = ls at hl ⊢
  have hl : lv_has ls 1 [(0, .int x0)] := hl
  exact w_X12_isShelf_0 ⟨B.exec, B.bytes, hml, findClass_of_methodNamed B.named, fun w hw => atoms_spec (ws := Cond.code yX12_isShelf cX12_isShelf 1 (some .boolean) :: xTB) B.pre w (List.mem_cons_of_mem _ hw), hK, hI, hE⟩ B.returns B.notSynchronized hf (fun t0 e => e.symm) ⟨hP, va_S.rf⟩ (lv_sub hl [0] rfl)
set_option maxHeartbeats 4000000 in
set_option maxRecDepth 100000 in
theorem w_X12_loads_58 {x1 : Int32} {x2 : Int32} {x3 : Int32} {x4 : Int32} (hM : xM p c cX12_loads m s args RX12 9 D cy xmb a z) (hr : meth.sig.returnType = (some .int)) (hlk : meth.locks = false) {S' : xSt} {v' : Int32} {S : xSt} {q : ((xSt × Int32) ⊕ (xSt × Int32))} (h : f_X12_loads_58 x1 x2 x3 S x4 = some q) (k0 : ∀ t0 : xSt × Int32, q = (.inr t0) → t0 = (S', v')) (k1 : ∀ (S : xSt) (x4 : Int32), q = (.inl (S, x4)) → ∀ (H : Heap) (locs : List Loc) (ls : Array Slot), xG D cy xmb a S s H locs → lv_has ls 9 [(0, .ref (a 0)), (1, .int x1), (2, .int x2), (3, .int x3), (4, .int x4)] → W p l e ({ frames := 2, cells := 0, slots := 0, locals := 42 } : Room) s m args below meth c H locs 0 0 (MQ below (xQi D cy xmb a S' v' s.heap.size) args s 0 0 (xA xmb a s.heap.size)) (F0 m 58 ls [])) {H : Heap} {locs : List Loc} (hG : xG D cy xmb a S s H locs) {ls : Array Slot} (hl : lv_has ls 9 [(0, .ref (a 0)), (1, .int x1), (2, .int x2), (3, .int x3), (4, .int x4)]) : W p l e ({ frames := 2, cells := 0, slots := 0, locals := 42 } : Room) s m args below meth c H locs 0 0 (MQ below (xQi D cy xmb a S' v' s.heap.size) args s 0 0 (xA xmb a s.heap.size)) (F0 m 58 ls []) := by
  have hx := hM.1
  have hb := hM.2.1
  refine lv_iload hx hb dX12_loads_58 (lv_at hl 4 rfl) ?_
  refine lv_iload_n hx hb dX12_loads_60 rfl (lv_at hl 3 rfl) ?_
  refine x_icmp_ge (tgt := 214) hM h dX12_loads_61 (by decide) (fun c_1 h => ?_) (fun c_1 h => ?_)
  · refine lv_iload_n hx hb dX12_loads_214 rfl (lv_at hl 3 rfl) ?_
    exact x_ri hM hG hr hlk rfl (k0 _ (Option.some.inj h).symm) dX12_loads_215
  · refine lv_iload_n hx hb dX12_loads_64 rfl (lv_at hl 2 rfl) ?_
    refine x_i2l hM h dX12_loads_65 (fun v_2 h => ?_)
    refine lv_iconst (v := (3 : Int32)) hx hb dX12_loads_66 (by decide) ?_
    refine lv_iload hx hb dX12_loads_67 (lv_at hl 4 rfl) ?_
    refine x_imul hM h dX12_loads_69 (fun v_3 h => ?_)
    refine x_i2l hM h dX12_loads_70 (fun v_4 h => ?_)
    refine x_ladd hM h dX12_loads_71 (fun v_5 h => ?_)
    refine lv_lstore (lv' := [(5, .long v_5), (0, .ref (a 0)), (1, .int x1), (2, .int x2), (3, .int x3), (4, .int x4)]) hx hb dX12_loads_72 hl (by decide) rfl (fun ls hl => ?_)
    refine lv_lload hx hb dX12_loads_74 (lv_at hl 0 rfl) ?_
    refine lv_lconst (v := (0 : Int64)) hx hb dX12_loads_76 (by decide) ?_
    refine x_lcmp hM h dX12_loads_77 (fun v_6 h => ?_)
    refine x_if_lt (tgt := 98) hM h dX12_loads_78 (by decide) (fun c_7 h => ?_) (fun c_7 h => ?_)
    · refine lv_iload hx hb dX12_loads_98 (lv_at hl 5 rfl) ?_
      exact x_ri hM hG hr hlk rfl (k0 _ (Option.some.inj h).symm) dX12_loads_100
    · refine lv_lload hx hb dX12_loads_81 (lv_at hl 0 rfl) ?_
      refine lv_ldc2 (v := (2 : Int64)) hx hb hM.2.2.2.1 (hM.2.2.2.2.1 _ xcn_X12_157) dX12_loads_83 ?_
      refine x_ladd hM h dX12_loads_86 (fun v_8 h => ?_)
      refine lv_aload_n hx hb dX12_loads_87 rfl (lv_at hl 1 rfl) ?_
      refine x_gr (r := 38) hM hG xfl_X12_129 xmt_0 (by decide) rfl dX12_loads_88 ?_
      refine lv_iload_n hx hb dX12_loads_91 rfl (lv_at hl 2 rfl) ?_
      refine x_iald hM hG xmt_38 h dX12_loads_92 (fun v_9 h => ?_)
      refine x_i2l hM h dX12_loads_93 (fun v_10 h => ?_)
      refine x_lcmp hM h dX12_loads_94 (fun v_11 h => ?_)
      refine x_if_lt (tgt := 101) hM h dX12_loads_95 (by decide) (fun c_12 h => ?_) (fun c_12 h => ?_)
      · refine lv_bipush (v := (60 : Int32)) hx hb dX12_loads_101 (by decide) ?_
        refine lv_iload_n hx hb dX12_loads_103 rfl (lv_at hl 2 rfl) ?_
        refine x_imul hM h dX12_loads_104 (fun v_13 h => ?_)
        refine lv_lload hx hb dX12_loads_105 (lv_at hl 0 rfl) ?_
        refine x_l2i hM h dX12_loads_107 (fun v_14 h => ?_)
        refine x_iadd hM h dX12_loads_108 (fun v_15 h => ?_)
        refine lv_istore (lv' := [(7, .int v_15), (5, .long v_5), (0, .ref (a 0)), (1, .int x1), (2, .int x2), (3, .int x3), (4, .int x4)]) hx hb dX12_loads_109 hl (by decide) rfl (fun ls hl => ?_)
        refine lv_aload_n hx hb dX12_loads_111 rfl (lv_at hl 2 rfl) ?_
        refine x_gr (r := 39) hM hG xfl_X12_132 xmt_0 (by decide) rfl dX12_loads_112 ?_
        refine lv_iload hx hb dX12_loads_115 (lv_at hl 0 rfl) ?_
        refine x_lald hM hG xmt_39 h dX12_loads_117 (fun v_16 h => ?_)
        refine x_l2i hM h dX12_loads_118 (fun v_17 h => ?_)
        refine lv_istore (lv' := [(8, .int v_17), (7, .int v_15), (5, .long v_5), (0, .ref (a 0)), (1, .int x1), (2, .int x2), (3, .int x3), (4, .int x4)]) hx hb dX12_loads_119 hl (by decide) rfl (fun ls hl => ?_)
        refine lv_iload hx hb dX12_loads_121 (lv_at hl 0 rfl) ?_
        refine x_cSi (As := [.int v_17]) (rest := []) hM hG xml_X12_146 xwt_X12_isColumn h (fun S' v e => c_X12_isColumn hM.2.2.2.2.2.2.1 e _) ⟨Nat.le_of_ble_eq_true rfl, Nat.le_of_ble_eq_true rfl⟩ rfl hl.1 rfl (Nat.le_of_ble_eq_true rfl) dX12_loads_123 (fun S_18 v_19 H locs h hG => ?_)
        refine x_if_eq (tgt := 178) hM h dX12_loads_126 (by decide) (fun c_20 h => ?_) (fun c_20 h => ?_)
        · refine lv_iload hx hb dX12_loads_178 (lv_at hl 7 rfl) ?_
          exact x_ri hM hG hr hlk rfl (k0 _ (Option.some.inj h).symm) dX12_loads_180
        · refine lv_aload_n hx hb dX12_loads_129 rfl (lv_at hl 3 rfl) ?_
          refine x_gr (r := 39) hM hG xfl_X12_132 xmt_0 (by decide) rfl dX12_loads_130 ?_
          refine lv_iload hx hb dX12_loads_133 (lv_at hl 1 rfl) ?_
          refine lv_iconst (v := (1 : Int32)) hx hb dX12_loads_135 (by decide) ?_
          refine x_iadd hM h dX12_loads_136 (fun v_21 h => ?_)
          refine x_lald hM hG xmt_39 h dX12_loads_137 (fun v_22 h => ?_)
          refine x_l2i hM h dX12_loads_138 (fun v_23 h => ?_)
          refine lv_iconst (v := (0 : Int32)) hx hb dX12_loads_139 (by decide) ?_
          refine lv_bipush (v := (9 : Int32)) hx hb dX12_loads_140 (by decide) ?_
          refine x_cSi (As := [.int v_23, .int (0 : Int32), .int (9 : Int32)]) (rest := []) hM hG xml_X12_142 xwt_X12_in h (fun S' v e => c_X12_in hM.2.2.2.2.2.2.1 e _) ⟨Nat.le_of_ble_eq_true rfl, Nat.le_of_ble_eq_true rfl⟩ rfl hl.1 rfl (Nat.le_of_ble_eq_true rfl) dX12_loads_142 (fun S_24 v_25 H locs h hG => ?_)
          refine x_if_eq (tgt := 178) hM h dX12_loads_145 (by decide) (fun c_26 h => ?_) (fun c_26 h => ?_)
          · refine lv_iload hx hb dX12_loads_178 (lv_at hl 7 rfl) ?_
            exact x_ri hM hG hr hlk rfl (k0 _ (Option.some.inj h).symm) dX12_loads_180
          · refine lv_aload_n hx hb dX12_loads_148 rfl (lv_at hl 3 rfl) ?_
            refine x_gr (r := 39) hM hG xfl_X12_132 xmt_0 (by decide) rfl dX12_loads_149 ?_
            refine lv_iload hx hb dX12_loads_152 (lv_at hl 1 rfl) ?_
            refine lv_iconst (v := (2 : Int32)) hx hb dX12_loads_154 (by decide) ?_
            refine x_iadd hM h dX12_loads_155 (fun v_27 h => ?_)
            refine x_lald hM hG xmt_39 h dX12_loads_156 (fun v_28 h => ?_)
            refine x_l2i hM h dX12_loads_157 (fun v_29 h => ?_)
            refine lv_iconst (v := (0 : Int32)) hx hb dX12_loads_158 (by decide) ?_
            refine lv_bipush (v := (9 : Int32)) hx hb dX12_loads_159 (by decide) ?_
            refine x_cSi (As := [.int v_29, .int (0 : Int32), .int (9 : Int32)]) (rest := []) hM hG xml_X12_142 xwt_X12_in h (fun S' v e => c_X12_in hM.2.2.2.2.2.2.1 e _) ⟨Nat.le_of_ble_eq_true rfl, Nat.le_of_ble_eq_true rfl⟩ rfl hl.1 rfl (Nat.le_of_ble_eq_true rfl) dX12_loads_161 (fun S_30 v_31 H locs h hG => ?_)
            refine x_if_eq (tgt := 178) hM h dX12_loads_164 (by decide) (fun c_32 h => ?_) (fun c_32 h => ?_)
            · refine lv_iload hx hb dX12_loads_178 (lv_at hl 7 rfl) ?_
              exact x_ri hM hG hr hlk rfl (k0 _ (Option.some.inj h).symm) dX12_loads_180
            · refine lv_aload_n hx hb dX12_loads_167 rfl (lv_at hl 3 rfl) ?_
              refine x_gr (r := 1) hM hG xfl_X12_9 xmt_0 (by decide) rfl dX12_loads_168 ?_
              refine lv_iload hx hb dX12_loads_171 (lv_at hl 0 rfl) ?_
              refine x_iald hM hG xmt_1 h dX12_loads_173 (fun v_33 h => ?_)
              refine lv_iconst (v := (5 : Int32)) hx hb dX12_loads_174 (by decide) ?_
              refine x_icmp_ne (tgt := 181) hM h dX12_loads_175 (by decide) (fun c_34 h => ?_) (fun c_34 h => ?_)
              · refine lv_aload_n hx hb dX12_loads_181 rfl (lv_at hl 3 rfl) ?_
                refine lv_iload hx hb dX12_loads_182 (lv_at hl 0 rfl) ?_
                refine lv_aload_n hx hb dX12_loads_184 rfl (lv_at hl 3 rfl) ?_
                refine x_gr (r := 39) hM hG xfl_X12_132 xmt_0 (by decide) rfl dX12_loads_185 ?_
                refine lv_iload hx hb dX12_loads_188 (lv_at hl 1 rfl) ?_
                refine lv_iconst (v := (1 : Int32)) hx hb dX12_loads_190 (by decide) ?_
                refine x_iadd hM h dX12_loads_191 (fun v_35 h => ?_)
                refine x_lald hM hG xmt_39 h dX12_loads_192 (fun v_36 h => ?_)
                refine x_l2i hM h dX12_loads_193 (fun v_37 h => ?_)
                refine lv_aload_n hx hb dX12_loads_194 rfl (lv_at hl 3 rfl) ?_
                refine x_gr (r := 39) hM hG xfl_X12_132 xmt_0 (by decide) rfl dX12_loads_195 ?_
                refine lv_iload hx hb dX12_loads_198 (lv_at hl 1 rfl) ?_
                refine lv_iconst (v := (2 : Int32)) hx hb dX12_loads_200 (by decide) ?_
                refine x_iadd hM h dX12_loads_201 (fun v_38 h => ?_)
                refine x_lald hM hG xmt_39 h dX12_loads_202 (fun v_39 h => ?_)
                refine x_l2i hM h dX12_loads_203 (fun v_40 h => ?_)
                refine x_cVi (As := [.int v_17, .int v_37, .int v_40]) (rest := []) hM hG xml_X12_150 xwi_X12_addLoad xws_X12_addLoad xmt_0 (by decide) rfl h (fun S' v e => c_X12_addLoad hM.2.2.2.2.2.2.1 e _) ⟨Nat.le_of_ble_eq_true rfl, Nat.le_of_ble_eq_true rfl⟩ rfl hl.1 rfl (Nat.le_of_ble_eq_true rfl) dX12_loads_204 (fun S_41 v_42 H locs h hG => ?_)
                refine lv_pop hx hb dX12_loads_207 rfl ?_
                refine x_iinc hM (fun v => [(4, .int v), (8, .int v_17), (7, .int v_15), (5, .long v_5), (0, .ref (a 0)), (1, .int x1), (2, .int x2), (3, .int x3)]) h dX12_loads_208 hl (k := 7) rfl (by decide) (by decide) (fun _ => rfl) (fun v_43 ls h hl => ?_)
                refine lv_goto (tgt := 58) hx hb dX12_loads_211 (by decide) ?_
                exact k1 _ _ (Option.some.inj h).symm _ _ _ hG (lv_sub hl [4, 5, 6, 7, 0] rfl)
              · refine lv_iload hx hb dX12_loads_178 (lv_at hl 7 rfl) ?_
                exact x_ri hM hG hr hlk rfl (k0 _ (Option.some.inj h).symm) dX12_loads_180
      · refine lv_iload hx hb dX12_loads_98 (lv_at hl 5 rfl) ?_
        exact x_ri hM hG hr hlk rfl (k0 _ (Option.some.inj h).symm) dX12_loads_100
theorem wl_X12_loads_58 {x1 : Int32} {x2 : Int32} {x3 : Int32} (hM : xM p c cX12_loads m s args RX12 9 D cy xmb a z) (hr : meth.sig.returnType = (some .int)) (hlk : meth.locks = false) {S' : xSt} {v' : Int32} {q : (xSt × Int32)} (k0 : ∀ t0 : xSt × Int32, q = t0 → t0 = (S', v')) (n : Nat) : ∀ (S : xSt) (x4 : Int32) (H : Heap) (locs : List Loc) (ls : Array Slot), xlp (fun q : (xSt × Int32) => f_X12_loads_58 x1 x2 x3 q.1 q.2) n (S, x4) = some q → xG D cy xmb a S s H locs → lv_has ls 9 [(0, .ref (a 0)), (1, .int x1), (2, .int x2), (3, .int x3), (4, .int x4)] → W p l e ({ frames := 2, cells := 0, slots := 0, locals := 42 } : Room) s m args below meth c H locs 0 0 (MQ below (xQi D cy xmb a S' v' s.heap.size) args s 0 0 (xA xmb a s.heap.size)) (F0 m 58 ls []) := by
  induction n with
  | zero => intro S x4 H locs ls h; exact (xlp_0 h).elim
  | succ n ih =>
    intro S x4 H locs ls h hG hl
    obtain ⟨q1, hq, hc, he⟩ := xlp_at h
    exact w_X12_loads_58 hM hr hlk (q := q1) hq (fun t0 e => k0 t0 (he _ e).symm) (fun S x4 e H locs ls hG hl => ih S x4 H locs ls (hc _ e) hG hl) hG hl
set_option maxHeartbeats 4000000 in
set_option maxRecDepth 100000 in
theorem w_X12_loads_43 {x1 : Int32} {x2 : Int32} {x3 : Int32} (hM : xM p c cX12_loads m s args RX12 9 D cy xmb a z) (hr : meth.sig.returnType = (some .int)) (hlk : meth.locks = false) {S' : xSt} {v' : Int32} {S : xSt} {q : (xSt × Int32)} (h : f_X12_loads_43 x1 x2 x3 S = some q) (k0 : ∀ t0 : xSt × Int32, q = t0 → t0 = (S', v')) {H : Heap} {locs : List Loc} (hG : xG D cy xmb a S s H locs) {ls : Array Slot} (hl : lv_has ls 9 [(0, .ref (a 0)), (1, .int x1), (2, .int x2), (3, .int x3)]) : W p l e ({ frames := 2, cells := 0, slots := 0, locals := 42 } : Room) s m args below meth c H locs 0 0 (MQ below (xQi D cy xmb a S' v' s.heap.size) args s 0 0 (xA xmb a s.heap.size)) (F0 m 43 ls []) := by
  have hx := hM.1
  have hb := hM.2.1
  refine lv_aload_n hx hb dX12_loads_43 rfl (lv_at hl 0 rfl) ?_
  refine x_gr (r := 37) hM hG xfl_X12_126 xmt_0 (by decide) rfl dX12_loads_44 ?_
  refine lv_iload_n hx hb dX12_loads_47 rfl (lv_at hl 1 rfl) ?_
  refine x_iald hM hG xmt_37 h dX12_loads_48 (fun v_1 h => ?_)
  refine lv_iconst (v := (-1 : Int32)) hx hb dX12_loads_49 (by decide) ?_
  refine x_icmp_ne (tgt := 55) hM h dX12_loads_50 (by decide) (fun c_2 h => ?_) (fun c_2 h => ?_)
  · refine lv_iconst (v := (0 : Int32)) hx hb dX12_loads_55 (by decide) ?_
    refine lv_istore (lv' := [(4, .int (0 : Int32)), (0, .ref (a 0)), (1, .int x1), (2, .int x2), (3, .int x3)]) hx hb dX12_loads_56 hl (by decide) rfl (fun ls hl => ?_)
    exact wl_X12_loads_58 hM hr hlk (fun t0 e => k0 t0 e) 5000 _ _ _ _ _ h hG (lv_sub hl [1, 2, 3, 4, 0] rfl)
  · refine lv_iconst (v := (0 : Int32)) hx hb dX12_loads_53 (by decide) ?_
    exact x_ri hM hG hr hlk rfl (k0 _ (Option.some.inj h).symm) dX12_loads_54
set_option maxHeartbeats 4000000 in
set_option maxRecDepth 100000 in
theorem w_X12_loads_0 {x1 : Int32} {x2 : Int32} {x3 : Int32} (hM : xM p c cX12_loads m s args RX12 9 D cy xmb a z) (hr : meth.sig.returnType = (some .int)) (hlk : meth.locks = false) {S' : xSt} {v' : Int32} {S : xSt} {q : (xSt × Int32)} (h : f_X12_loads_0 x1 x2 x3 S = some q) (k0 : ∀ t0 : xSt × Int32, q = t0 → t0 = (S', v')) {H : Heap} {locs : List Loc} (hG : xG D cy xmb a S s H locs) {ls : Array Slot} (hl : lv_has ls 9 [(0, .ref (a 0)), (1, .int x1), (2, .int x2), (3, .int x3)]) : W p l e ({ frames := 2, cells := 0, slots := 0, locals := 42 } : Room) s m args below meth c H locs 0 0 (MQ below (xQi D cy xmb a S' v' s.heap.size) args s 0 0 (xA xmb a s.heap.size)) (F0 m 0 ls []) := by
  have hx := hM.1
  have hb := hM.2.1
  refine lv_iload_n hx hb dX12_loads_0 rfl (lv_at hl 1 rfl) ?_
  refine x_cSi (As := [.int x1]) (rest := []) hM hG xml_X12_154 xwt_X12_isShelf h (fun S' v e => c_X12_isShelf hM.2.2.2.2.2.2.1 e _) ⟨Nat.le_of_ble_eq_true rfl, Nat.le_of_ble_eq_true rfl⟩ rfl hl.1 rfl (Nat.le_of_ble_eq_true rfl) dX12_loads_1 (fun S_1 v_2 H locs h hG => ?_)
  refine x_if_eq (tgt := 17) hM h dX12_loads_4 (by decide) (fun c_3 h => ?_) (fun c_3 h => ?_)
  · refine lv_iconst (v := (-1 : Int32)) hx hb dX12_loads_17 (by decide) ?_
    exact x_ri hM hG hr hlk rfl (k0 _ (Option.some.inj h).symm) dX12_loads_18
  · refine lv_iload_n hx hb dX12_loads_7 rfl (lv_at hl 3 rfl) ?_
    refine lv_iconst (v := (1 : Int32)) hx hb dX12_loads_8 (by decide) ?_
    refine lv_bipush (v := (20 : Int32)) hx hb dX12_loads_9 (by decide) ?_
    refine x_cSi (As := [.int x3, .int (1 : Int32), .int (20 : Int32)]) (rest := []) hM hG xml_X12_142 xwt_X12_in h (fun S' v e => c_X12_in hM.2.2.2.2.2.2.1 e _) ⟨Nat.le_of_ble_eq_true rfl, Nat.le_of_ble_eq_true rfl⟩ rfl hl.1 rfl (Nat.le_of_ble_eq_true rfl) dX12_loads_11 (fun S_4 v_5 H locs h hG => ?_)
    refine x_if_ne (tgt := 19) hM h dX12_loads_14 (by decide) (fun c_6 h => ?_) (fun c_6 h => ?_)
    · refine lv_aload_n hx hb dX12_loads_19 rfl (lv_at hl 0 rfl) ?_
      refine x_gr (r := 37) hM hG xfl_X12_126 xmt_0 (by decide) rfl dX12_loads_20 ?_
      refine lv_iload_n hx hb dX12_loads_23 rfl (lv_at hl 1 rfl) ?_
      refine x_iald hM hG xmt_37 h dX12_loads_24 (fun v_7 h => ?_)
      refine lv_iconst (v := (-1 : Int32)) hx hb dX12_loads_25 (by decide) ?_
      refine x_icmp_eq (tgt := 43) hM h dX12_loads_26 (by decide) (fun c_8 h => ?_) (fun c_8 h => ?_)
      · exact w_X12_loads_43 hM hr hlk h (fun t0 e => k0 t0 e) hG (lv_sub hl [0, 1, 2, 3] rfl)
      · refine lv_aload_n hx hb dX12_loads_29 rfl (lv_at hl 0 rfl) ?_
        refine x_gr (r := 37) hM hG xfl_X12_126 xmt_0 (by decide) rfl dX12_loads_30 ?_
        refine lv_iload_n hx hb dX12_loads_33 rfl (lv_at hl 1 rfl) ?_
        refine x_iald hM hG xmt_37 h dX12_loads_34 (fun v_9 h => ?_)
        refine lv_bipush (v := (-2 : Int32)) hx hb dX12_loads_35 (by decide) ?_
        refine x_icmp_eq (tgt := 43) hM h dX12_loads_37 (by decide) (fun c_10 h => ?_) (fun c_10 h => ?_)
        · exact w_X12_loads_43 hM hr hlk h (fun t0 e => k0 t0 e) hG (lv_sub hl [0, 1, 2, 3] rfl)
        · refine lv_bipush (v := (-12 : Int32)) hx hb dX12_loads_40 (by decide) ?_
          exact x_ri hM hG hr hlk rfl (k0 _ (Option.some.inj h).symm) dX12_loads_42
    · refine lv_iconst (v := (-1 : Int32)) hx hb dX12_loads_17 (by decide) ?_
      exact x_ri hM hG hr hlk rfl (k0 _ (Option.some.inj h).symm) dX12_loads_18
set_option maxHeartbeats 4000000 in
set_option maxRecDepth 100000 in
theorem c_X12_loads {l : Launch} {D : va_G} {cy : Nat → ClassId} {a z : Nat → Nat} (hI : xI xmb a) {S : xSt} {x1 : Int32} {x2 : Int32} {x3 : Int32} {S' : xSt} {v' : Int32} (hf : f_X12_loads S x1 x2 x3 = some (S', v')) (sz : Nat) : Met l yX12_loads (Cond.code yX12_loads cX12_loads 9 (some .int) :: xTB) ({ frames := 2, cells := 0, slots := 0, locals := 42 } : Room) (va_Pc [.ref (a 0), .int x1, .int x2, .int x3] (xPre D cy xmb a z S sz)) (xQi D cy xmb a S' v' sz) 0 0 (xA xmb a sz) := by
  refine Met.ofW (cc := cX12_loads) (maxL := 9) (ret := (some .int)) (by decide) rfl ?_
  intro p e s m args below meth c s₁ B hml hv
  obtain ⟨rfl, hsz, hP, hK, hE⟩ := hv
  subst hsz
  have hl := lv_entry ([.ref (a 0), .int x1, .int x2, .int x3]) (n := 9) (Nat.le_of_ble_eq_true rfl)
  rw [lg_entry_eq]
  generalize (lg_sl ([.ref (a 0), .int x1, .int x2, .int x3]) ++ List.replicate (9 - (lg_sl ([.ref (a 0), .int x1, .int x2, .int x3])).length) Slot.unset).toArray = ls at hl ⊢
  have hl : lv_has ls 9 [(0, .ref (a 0)), (1, .int x1), (2, .int x2), (3, .int x3)] := hl
  exact w_X12_loads_0 ⟨B.exec, B.bytes, hml, findClass_of_methodNamed B.named, fun w hw => atoms_spec (ws := Cond.code yX12_loads cX12_loads 9 (some .int) :: xTB) B.pre w (List.mem_cons_of_mem _ hw), hK, hI, hE⟩ B.returns B.notSynchronized hf (fun t0 e => e.symm) ⟨hP, va_S.rf⟩ (lv_sub hl [0, 1, 2, 3] rfl)
set_option maxHeartbeats 4000000 in
set_option maxRecDepth 100000 in
theorem w_X12_valueAt_0 {x1 : Int32} {x2 : Int32} (hM : xM p c cX12_valueAt m s args RX12 3 D cy xmb a z) (hr : meth.sig.returnType = (some .int)) (hlk : meth.locks = false) {S' : xSt} {v' : Int32} {S : xSt} {q : (xSt × Int32)} (h : f_X12_valueAt_0 x1 x2 S = some q) (k0 : ∀ t0 : xSt × Int32, q = t0 → t0 = (S', v')) {H : Heap} {locs : List Loc} (hG : xG D cy xmb a S s H locs) {ls : Array Slot} (hl : lv_has ls 3 [(0, .ref (a 0)), (1, .int x1), (2, .int x2)]) : W p l e ({ frames := 0, cells := 0, slots := 0, locals := 0 } : Room) s m args below meth c H locs 0 0 (MQ below (xQi D cy xmb a S' v' s.heap.size) args s 0 0 (xA xmb a s.heap.size)) (F0 m 0 ls []) := by
  have hx := hM.1
  have hb := hM.2.1
  refine lv_iload_n hx hb dX12_valueAt_0 rfl (lv_at hl 1 rfl) ?_
  by_cases c_1 : x1 = (0 : Int32)
  · have h := (if_pos c_1).symm.trans h
    refine lv_tableIn (off := 39) (tgt := 40) hx hb dX12_valueAt_1 (by rw [c_1]; decide) (by rw [c_1]; decide) (by rw [c_1]; rfl) (by decide) ?_
    refine lv_aload_n hx hb dX12_valueAt_40 rfl (lv_at hl 0 rfl) ?_
    refine x_gr (r := 2) hM hG xfl_X12_15 xmt_0 (by decide) rfl dX12_valueAt_41 ?_
    refine lv_iload_n hx hb dX12_valueAt_44 rfl (lv_at hl 2 rfl) ?_
    refine x_iald hM hG xmt_2 h dX12_valueAt_45 (fun v_2 h => ?_)
    exact x_ri hM hG hr hlk rfl (k0 _ (Option.some.inj h).symm) dX12_valueAt_46
  · have h := (if_neg c_1).symm.trans h
    by_cases c_3 : x1 = (1 : Int32)
    · have h := (if_pos c_3).symm.trans h
      refine lv_tableIn (off := 46) (tgt := 47) hx hb dX12_valueAt_1 (by rw [c_3]; decide) (by rw [c_3]; decide) (by rw [c_3]; rfl) (by decide) ?_
      refine lv_aload_n hx hb dX12_valueAt_47 rfl (lv_at hl 0 rfl) ?_
      refine x_gr (r := 3) hM hG xfl_X12_18 xmt_0 (by decide) rfl dX12_valueAt_48 ?_
      refine lv_iload_n hx hb dX12_valueAt_51 rfl (lv_at hl 2 rfl) ?_
      refine x_iald hM hG xmt_3 h dX12_valueAt_52 (fun v_4 h => ?_)
      exact x_ri hM hG hr hlk rfl (k0 _ (Option.some.inj h).symm) dX12_valueAt_53
    · have h := (if_neg c_3).symm.trans h
      by_cases c_5 : x1 = (2 : Int32)
      · have h := (if_pos c_5).symm.trans h
        refine lv_tableIn (off := 53) (tgt := 54) hx hb dX12_valueAt_1 (by rw [c_5]; decide) (by rw [c_5]; decide) (by rw [c_5]; rfl) (by decide) ?_
        refine lv_aload_n hx hb dX12_valueAt_54 rfl (lv_at hl 0 rfl) ?_
        refine x_gr (r := 4) hM hG xfl_X12_21 xmt_0 (by decide) rfl dX12_valueAt_55 ?_
        refine lv_iload_n hx hb dX12_valueAt_58 rfl (lv_at hl 2 rfl) ?_
        refine x_iald hM hG xmt_4 h dX12_valueAt_59 (fun v_6 h => ?_)
        exact x_ri hM hG hr hlk rfl (k0 _ (Option.some.inj h).symm) dX12_valueAt_60
      · have h := (if_neg c_5).symm.trans h
        by_cases c_7 : x1 = (3 : Int32)
        · have h := (if_pos c_7).symm.trans h
          refine lv_tableIn (off := 60) (tgt := 61) hx hb dX12_valueAt_1 (by rw [c_7]; decide) (by rw [c_7]; decide) (by rw [c_7]; rfl) (by decide) ?_
          refine lv_aload_n hx hb dX12_valueAt_61 rfl (lv_at hl 0 rfl) ?_
          refine x_gr (r := 5) hM hG xfl_X12_24 xmt_0 (by decide) rfl dX12_valueAt_62 ?_
          refine lv_iload_n hx hb dX12_valueAt_65 rfl (lv_at hl 2 rfl) ?_
          refine x_iald hM hG xmt_5 h dX12_valueAt_66 (fun v_8 h => ?_)
          exact x_ri hM hG hr hlk rfl (k0 _ (Option.some.inj h).symm) dX12_valueAt_67
        · have h := (if_neg c_7).symm.trans h
          by_cases c_9 : x1 = (4 : Int32)
          · have h := (if_pos c_9).symm.trans h
            refine lv_tableIn (off := 67) (tgt := 68) hx hb dX12_valueAt_1 (by rw [c_9]; decide) (by rw [c_9]; decide) (by rw [c_9]; rfl) (by decide) ?_
            refine lv_aload_n hx hb dX12_valueAt_68 rfl (lv_at hl 0 rfl) ?_
            refine x_gr (r := 6) hM hG xfl_X12_27 xmt_0 (by decide) rfl dX12_valueAt_69 ?_
            refine lv_iload_n hx hb dX12_valueAt_72 rfl (lv_at hl 2 rfl) ?_
            refine x_iald hM hG xmt_6 h dX12_valueAt_73 (fun v_10 h => ?_)
            exact x_ri hM hG hr hlk rfl (k0 _ (Option.some.inj h).symm) dX12_valueAt_74
          · have h := (if_neg c_9).symm.trans h
            by_cases c_11 : x1 = (5 : Int32)
            · have h := (if_pos c_11).symm.trans h
              refine lv_tableIn (off := 74) (tgt := 75) hx hb dX12_valueAt_1 (by rw [c_11]; decide) (by rw [c_11]; decide) (by rw [c_11]; rfl) (by decide) ?_
              refine lv_aload_n hx hb dX12_valueAt_75 rfl (lv_at hl 0 rfl) ?_
              refine x_gr (r := 7) hM hG xfl_X12_30 xmt_0 (by decide) rfl dX12_valueAt_76 ?_
              refine lv_iload_n hx hb dX12_valueAt_79 rfl (lv_at hl 2 rfl) ?_
              refine x_iald hM hG xmt_7 h dX12_valueAt_80 (fun v_12 h => ?_)
              exact x_ri hM hG hr hlk rfl (k0 _ (Option.some.inj h).symm) dX12_valueAt_81
            · have h := (if_neg c_11).symm.trans h
              refine lv_tableOut (tgt := 82) hx hb dX12_valueAt_1 (x_tout [(0 : Int32), (1 : Int32), (2 : Int32), (3 : Int32), (4 : Int32), (5 : Int32)] 0 (by decide) (by decide) (List.forall_mem_cons.mpr ⟨c_1, (List.forall_mem_cons.mpr ⟨c_3, (List.forall_mem_cons.mpr ⟨c_5, (List.forall_mem_cons.mpr ⟨c_7, (List.forall_mem_cons.mpr ⟨c_9, (List.forall_mem_cons.mpr ⟨c_11, (fun _ h => absurd h List.not_mem_nil)⟩)⟩)⟩)⟩)⟩)⟩)) (by decide) ?_
              refine lv_aload_n hx hb dX12_valueAt_82 rfl (lv_at hl 0 rfl) ?_
              refine x_gr (r := 8) hM hG xfl_X12_33 xmt_0 (by decide) rfl dX12_valueAt_83 ?_
              refine lv_iload_n hx hb dX12_valueAt_86 rfl (lv_at hl 1 rfl) ?_
              refine lv_bipush (v := (6 : Int32)) hx hb dX12_valueAt_87 (by decide) ?_
              refine x_isub hM h dX12_valueAt_89 (fun v_13 h => ?_)
              refine x_iald hM hG xmt_8 h dX12_valueAt_90 (fun v_14 h => ?_)
              exact x_ri hM hG hr hlk rfl (k0 _ (Option.some.inj h).symm) dX12_valueAt_91
set_option maxHeartbeats 4000000 in
set_option maxRecDepth 100000 in
theorem c_X12_valueAt {l : Launch} {D : va_G} {cy : Nat → ClassId} {a z : Nat → Nat} (hI : xI xmb a) {S : xSt} {x1 : Int32} {x2 : Int32} {S' : xSt} {v' : Int32} (hf : f_X12_valueAt S x1 x2 = some (S', v')) (sz : Nat) : Met l yX12_valueAt (Cond.code yX12_valueAt cX12_valueAt 3 (some .int) :: xTB) ({ frames := 0, cells := 0, slots := 0, locals := 0 } : Room) (va_Pc [.ref (a 0), .int x1, .int x2] (xPre D cy xmb a z S sz)) (xQi D cy xmb a S' v' sz) 0 0 (xA xmb a sz) := by
  refine Met.ofW (cc := cX12_valueAt) (maxL := 3) (ret := (some .int)) (by decide) rfl ?_
  intro p e s m args below meth c s₁ B hml hv
  obtain ⟨rfl, hsz, hP, hK, hE⟩ := hv
  subst hsz
  have hl := lv_entry ([.ref (a 0), .int x1, .int x2]) (n := 3) (Nat.le_of_ble_eq_true rfl)
  rw [lg_entry_eq]
  generalize (lg_sl ([.ref (a 0), .int x1, .int x2]) ++ List.replicate (3 - (lg_sl ([.ref (a 0), .int x1, .int x2])).length) Slot.unset).toArray = ls at hl ⊢
  have hl : lv_has ls 3 [(0, .ref (a 0)), (1, .int x1), (2, .int x2)] := hl
  exact w_X12_valueAt_0 ⟨B.exec, B.bytes, hml, findClass_of_methodNamed B.named, fun w hw => atoms_spec (ws := Cond.code yX12_valueAt cX12_valueAt 3 (some .int) :: xTB) B.pre w (List.mem_cons_of_mem _ hw), hK, hI, hE⟩ B.returns B.notSynchronized hf (fun t0 e => e.symm) ⟨hP, va_S.rf⟩ (lv_sub hl [0, 1, 2] rfl)
set_option maxHeartbeats 4000000 in
set_option maxRecDepth 100000 in
theorem w_X12_lays_0 {x1 : Int32} {x2 : Int32} {x3 : Int32} (hM : xM p c cX12_lays m s args RX12 4 D cy xmb a z) (hr : meth.sig.returnType = none) (hlk : meth.locks = false) {S' : xSt} {v' : Unit} {S : xSt} {q : (xSt × Unit)} (h : f_X12_lays_0 x1 x2 x3 S = some q) (k0 : ∀ t0 : xSt × Unit, q = t0 → t0 = (S', v')) {H : Heap} {locs : List Loc} (hG : xG D cy xmb a S s H locs) {ls : Array Slot} (hl : lv_has ls 4 [(0, .ref (a 0)), (1, .int x1), (2, .int x2), (3, .int x3)]) : W p l e ({ frames := 0, cells := 0, slots := 0, locals := 0 } : Room) s m args below meth c H locs 0 0 (MQ below (xQv D cy xmb a S' v' s.heap.size) args s 0 0 (xA xmb a s.heap.size)) (F0 m 0 ls []) := by
  have hx := hM.1
  have hb := hM.2.1
  refine lv_iload_n hx hb dX12_lays_0 rfl (lv_at hl 1 rfl) ?_
  by_cases c_1 : x1 = (0 : Int32)
  · have h := (if_pos c_1).symm.trans h
    refine lv_tableIn (off := 39) (tgt := 40) hx hb dX12_lays_1 (by rw [c_1]; decide) (by rw [c_1]; decide) (by rw [c_1]; rfl) (by decide) ?_
    refine lv_aload_n hx hb dX12_lays_40 rfl (lv_at hl 0 rfl) ?_
    refine x_gr (r := 2) hM hG xfl_X12_15 xmt_0 (by decide) rfl dX12_lays_41 ?_
    refine lv_iload_n hx hb dX12_lays_44 rfl (lv_at hl 2 rfl) ?_
    refine lv_iload_n hx hb dX12_lays_45 rfl (lv_at hl 3 rfl) ?_
    refine x_iast hM hG xmt_2 h dX12_lays_46 (fun S_2 H locs h hG => ?_)
    refine lv_goto (tgt := 110) hx hb dX12_lays_47 (by decide) ?_
    exact x_rv hM hG hr hlk (k0 _ (Option.some.inj h).symm) dX12_lays_110
  · have h := (if_neg c_1).symm.trans h
    by_cases c_3 : x1 = (1 : Int32)
    · have h := (if_pos c_3).symm.trans h
      refine lv_tableIn (off := 49) (tgt := 50) hx hb dX12_lays_1 (by rw [c_3]; decide) (by rw [c_3]; decide) (by rw [c_3]; rfl) (by decide) ?_
      refine lv_aload_n hx hb dX12_lays_50 rfl (lv_at hl 0 rfl) ?_
      refine x_gr (r := 3) hM hG xfl_X12_18 xmt_0 (by decide) rfl dX12_lays_51 ?_
      refine lv_iload_n hx hb dX12_lays_54 rfl (lv_at hl 2 rfl) ?_
      refine lv_iload_n hx hb dX12_lays_55 rfl (lv_at hl 3 rfl) ?_
      refine x_iast hM hG xmt_3 h dX12_lays_56 (fun S_4 H locs h hG => ?_)
      refine lv_goto (tgt := 110) hx hb dX12_lays_57 (by decide) ?_
      exact x_rv hM hG hr hlk (k0 _ (Option.some.inj h).symm) dX12_lays_110
    · have h := (if_neg c_3).symm.trans h
      by_cases c_5 : x1 = (2 : Int32)
      · have h := (if_pos c_5).symm.trans h
        refine lv_tableIn (off := 59) (tgt := 60) hx hb dX12_lays_1 (by rw [c_5]; decide) (by rw [c_5]; decide) (by rw [c_5]; rfl) (by decide) ?_
        refine lv_aload_n hx hb dX12_lays_60 rfl (lv_at hl 0 rfl) ?_
        refine x_gr (r := 4) hM hG xfl_X12_21 xmt_0 (by decide) rfl dX12_lays_61 ?_
        refine lv_iload_n hx hb dX12_lays_64 rfl (lv_at hl 2 rfl) ?_
        refine lv_iload_n hx hb dX12_lays_65 rfl (lv_at hl 3 rfl) ?_
        refine x_iast hM hG xmt_4 h dX12_lays_66 (fun S_6 H locs h hG => ?_)
        refine lv_goto (tgt := 110) hx hb dX12_lays_67 (by decide) ?_
        exact x_rv hM hG hr hlk (k0 _ (Option.some.inj h).symm) dX12_lays_110
      · have h := (if_neg c_5).symm.trans h
        by_cases c_7 : x1 = (3 : Int32)
        · have h := (if_pos c_7).symm.trans h
          refine lv_tableIn (off := 69) (tgt := 70) hx hb dX12_lays_1 (by rw [c_7]; decide) (by rw [c_7]; decide) (by rw [c_7]; rfl) (by decide) ?_
          refine lv_aload_n hx hb dX12_lays_70 rfl (lv_at hl 0 rfl) ?_
          refine x_gr (r := 5) hM hG xfl_X12_24 xmt_0 (by decide) rfl dX12_lays_71 ?_
          refine lv_iload_n hx hb dX12_lays_74 rfl (lv_at hl 2 rfl) ?_
          refine lv_iload_n hx hb dX12_lays_75 rfl (lv_at hl 3 rfl) ?_
          refine x_iast hM hG xmt_5 h dX12_lays_76 (fun S_8 H locs h hG => ?_)
          refine lv_goto (tgt := 110) hx hb dX12_lays_77 (by decide) ?_
          exact x_rv hM hG hr hlk (k0 _ (Option.some.inj h).symm) dX12_lays_110
        · have h := (if_neg c_7).symm.trans h
          by_cases c_9 : x1 = (4 : Int32)
          · have h := (if_pos c_9).symm.trans h
            refine lv_tableIn (off := 79) (tgt := 80) hx hb dX12_lays_1 (by rw [c_9]; decide) (by rw [c_9]; decide) (by rw [c_9]; rfl) (by decide) ?_
            refine lv_aload_n hx hb dX12_lays_80 rfl (lv_at hl 0 rfl) ?_
            refine x_gr (r := 6) hM hG xfl_X12_27 xmt_0 (by decide) rfl dX12_lays_81 ?_
            refine lv_iload_n hx hb dX12_lays_84 rfl (lv_at hl 2 rfl) ?_
            refine lv_iload_n hx hb dX12_lays_85 rfl (lv_at hl 3 rfl) ?_
            refine x_iast hM hG xmt_6 h dX12_lays_86 (fun S_10 H locs h hG => ?_)
            refine lv_goto (tgt := 110) hx hb dX12_lays_87 (by decide) ?_
            exact x_rv hM hG hr hlk (k0 _ (Option.some.inj h).symm) dX12_lays_110
          · have h := (if_neg c_9).symm.trans h
            by_cases c_11 : x1 = (5 : Int32)
            · have h := (if_pos c_11).symm.trans h
              refine lv_tableIn (off := 89) (tgt := 90) hx hb dX12_lays_1 (by rw [c_11]; decide) (by rw [c_11]; decide) (by rw [c_11]; rfl) (by decide) ?_
              refine lv_aload_n hx hb dX12_lays_90 rfl (lv_at hl 0 rfl) ?_
              refine x_gr (r := 7) hM hG xfl_X12_30 xmt_0 (by decide) rfl dX12_lays_91 ?_
              refine lv_iload_n hx hb dX12_lays_94 rfl (lv_at hl 2 rfl) ?_
              refine lv_iload_n hx hb dX12_lays_95 rfl (lv_at hl 3 rfl) ?_
              refine x_iast hM hG xmt_7 h dX12_lays_96 (fun S_12 H locs h hG => ?_)
              refine lv_goto (tgt := 110) hx hb dX12_lays_97 (by decide) ?_
              exact x_rv hM hG hr hlk (k0 _ (Option.some.inj h).symm) dX12_lays_110
            · have h := (if_neg c_11).symm.trans h
              refine lv_tableOut (tgt := 100) hx hb dX12_lays_1 (x_tout [(0 : Int32), (1 : Int32), (2 : Int32), (3 : Int32), (4 : Int32), (5 : Int32)] 0 (by decide) (by decide) (List.forall_mem_cons.mpr ⟨c_1, (List.forall_mem_cons.mpr ⟨c_3, (List.forall_mem_cons.mpr ⟨c_5, (List.forall_mem_cons.mpr ⟨c_7, (List.forall_mem_cons.mpr ⟨c_9, (List.forall_mem_cons.mpr ⟨c_11, (fun _ h => absurd h List.not_mem_nil)⟩)⟩)⟩)⟩)⟩)⟩)) (by decide) ?_
              refine lv_aload_n hx hb dX12_lays_100 rfl (lv_at hl 0 rfl) ?_
              refine x_gr (r := 8) hM hG xfl_X12_33 xmt_0 (by decide) rfl dX12_lays_101 ?_
              refine lv_iload_n hx hb dX12_lays_104 rfl (lv_at hl 1 rfl) ?_
              refine lv_bipush (v := (6 : Int32)) hx hb dX12_lays_105 (by decide) ?_
              refine x_isub hM h dX12_lays_107 (fun v_13 h => ?_)
              refine lv_iload_n hx hb dX12_lays_108 rfl (lv_at hl 3 rfl) ?_
              refine x_iast hM hG xmt_8 h dX12_lays_109 (fun S_14 H locs h hG => ?_)
              exact x_rv hM hG hr hlk (k0 _ (Option.some.inj h).symm) dX12_lays_110
set_option maxHeartbeats 4000000 in
set_option maxRecDepth 100000 in
theorem c_X12_lays {l : Launch} {D : va_G} {cy : Nat → ClassId} {a z : Nat → Nat} (hI : xI xmb a) {S : xSt} {x1 : Int32} {x2 : Int32} {x3 : Int32} {S' : xSt} {v' : Unit} (hf : f_X12_lays S x1 x2 x3 = some (S', v')) (sz : Nat) : Met l yX12_lays (Cond.code yX12_lays cX12_lays 4 none :: xTB) ({ frames := 0, cells := 0, slots := 0, locals := 0 } : Room) (va_Pc [.ref (a 0), .int x1, .int x2, .int x3] (xPre D cy xmb a z S sz)) (xQv D cy xmb a S' v' sz) 0 0 (xA xmb a sz) := by
  refine Met.ofW (cc := cX12_lays) (maxL := 4) (ret := none) (by decide) rfl ?_
  intro p e s m args below meth c s₁ B hml hv
  obtain ⟨rfl, hsz, hP, hK, hE⟩ := hv
  subst hsz
  have hl := lv_entry ([.ref (a 0), .int x1, .int x2, .int x3]) (n := 4) (Nat.le_of_ble_eq_true rfl)
  rw [lg_entry_eq]
  generalize (lg_sl ([.ref (a 0), .int x1, .int x2, .int x3]) ++ List.replicate (4 - (lg_sl ([.ref (a 0), .int x1, .int x2, .int x3])).length) Slot.unset).toArray = ls at hl ⊢
  have hl : lv_has ls 4 [(0, .ref (a 0)), (1, .int x1), (2, .int x2), (3, .int x3)] := hl
  exact w_X12_lays_0 ⟨B.exec, B.bytes, hml, findClass_of_methodNamed B.named, fun w hw => atoms_spec (ws := Cond.code yX12_lays cX12_lays 4 none :: xTB) B.pre w (List.mem_cons_of_mem _ hw), hK, hI, hE⟩ B.returns B.notSynchronized hf (fun t0 e => e.symm) ⟨hP, va_S.rf⟩ (lv_sub hl [0, 1, 2, 3] rfl)
set_option maxHeartbeats 4000000 in
set_option maxRecDepth 100000 in
theorem w_X12_changes_121 {x1 : Int32} {x2 : Int32} {x3 : Int32} {x4 : Int32} (hM : xM p c cX12_changes m s args RX12 6 D cy xmb a z) (hr : meth.sig.returnType = (some .int)) (hlk : meth.locks = false) {S' : xSt} {v' : Int32} {S : xSt} {q : (xSt × Int32)} (h : f_X12_changes_121 x1 x2 x3 x4 S = some q) (k0 : ∀ t0 : xSt × Int32, q = t0 → t0 = (S', v')) {H : Heap} {locs : List Loc} (hG : xG D cy xmb a S s H locs) {ls : Array Slot} (hl : lv_has ls 6 [(0, .ref (a 0)), (1, .int x1), (2, .int x2), (3, .int x3), (4, .int x4)]) : W p l e ({ frames := 1, cells := 0, slots := 0, locals := 23 } : Room) s m args below meth c H locs 0 0 (MQ below (xQi D cy xmb a S' v' s.heap.size) args s 0 0 (xA xmb a s.heap.size)) (F0 m 121 ls []) := by
  have hx := hM.1
  have hb := hM.2.1
  refine lv_aload_n hx hb dX12_changes_121 rfl (lv_at hl 0 rfl) ?_
  refine x_gr (r := 10) hM hG xfl_X12_39 xmt_0 (by decide) rfl dX12_changes_122 ?_
  refine lv_aload_n hx hb dX12_changes_125 rfl (lv_at hl 0 rfl) ?_
  refine x_gi hM hG xfl_X12_166 xmt_0 (by decide) rfl h dX12_changes_126 (fun v_1 h => ?_)
  refine lv_iload_n hx hb dX12_changes_129 rfl (lv_at hl 1 rfl) ?_
  refine x_iast hM hG xmt_10 h dX12_changes_130 (fun S_2 H locs h hG => ?_)
  refine lv_aload_n hx hb dX12_changes_131 rfl (lv_at hl 0 rfl) ?_
  refine x_gr (r := 11) hM hG xfl_X12_42 xmt_0 (by decide) rfl dX12_changes_132 ?_
  refine lv_aload_n hx hb dX12_changes_135 rfl (lv_at hl 0 rfl) ?_
  refine x_gi hM hG xfl_X12_166 xmt_0 (by decide) rfl h dX12_changes_136 (fun v_3 h => ?_)
  refine lv_iload_n hx hb dX12_changes_139 rfl (lv_at hl 2 rfl) ?_
  refine x_iast hM hG xmt_11 h dX12_changes_140 (fun S_4 H locs h hG => ?_)
  refine lv_aload_n hx hb dX12_changes_141 rfl (lv_at hl 0 rfl) ?_
  refine x_gr (r := 12) hM hG xfl_X12_45 xmt_0 (by decide) rfl dX12_changes_142 ?_
  refine lv_aload_n hx hb dX12_changes_145 rfl (lv_at hl 0 rfl) ?_
  refine x_gi hM hG xfl_X12_166 xmt_0 (by decide) rfl h dX12_changes_146 (fun v_5 h => ?_)
  refine lv_iload hx hb dX12_changes_149 (lv_at hl 4 rfl) ?_
  refine x_iast hM hG xmt_12 h dX12_changes_151 (fun S_6 H locs h hG => ?_)
  refine lv_aload_n hx hb dX12_changes_152 rfl (lv_at hl 0 rfl) ?_
  refine x_gr (r := 13) hM hG xfl_X12_48 xmt_0 (by decide) rfl dX12_changes_153 ?_
  refine lv_aload_n hx hb dX12_changes_156 rfl (lv_at hl 0 rfl) ?_
  refine x_gi hM hG xfl_X12_166 xmt_0 (by decide) rfl h dX12_changes_157 (fun v_7 h => ?_)
  refine lv_iload_n hx hb dX12_changes_160 rfl (lv_at hl 3 rfl) ?_
  refine x_iast hM hG xmt_13 h dX12_changes_161 (fun S_8 H locs h hG => ?_)
  refine lv_aload_n hx hb dX12_changes_162 rfl (lv_at hl 0 rfl) ?_
  refine lv_dup hx hb dX12_changes_163 rfl ?_
  refine x_gi hM hG xfl_X12_166 xmt_0 (by decide) rfl h dX12_changes_164 (fun v_9 h => ?_)
  refine lv_iconst (v := (1 : Int32)) hx hb dX12_changes_167 (by decide) ?_
  refine x_iadd hM h dX12_changes_168 (fun v_10 h => ?_)
  refine x_pi hM hG xfl_X12_166 xfp_X12_10 xmt_0 (by decide) rfl rfl rfl h dX12_changes_169 (fun S_11 H locs h hG => ?_)
  refine lv_aload_n hx hb dX12_changes_172 rfl (lv_at hl 0 rfl) ?_
  refine lv_iload_n hx hb dX12_changes_173 rfl (lv_at hl 1 rfl) ?_
  refine lv_iload_n hx hb dX12_changes_174 rfl (lv_at hl 2 rfl) ?_
  refine lv_iload_n hx hb dX12_changes_175 rfl (lv_at hl 3 rfl) ?_
  refine x_cVv (As := [.int x1, .int x2, .int x3]) (rest := []) hM hG xml_X12_169 xwi_X12_lays xws_X12_lays xmt_0 (by decide) rfl h (fun S' v e => c_X12_lays hM.2.2.2.2.2.2.1 e _) ⟨Nat.le_of_ble_eq_true rfl, Nat.le_of_ble_eq_true rfl⟩ rfl hl.1 rfl (Nat.le_of_ble_eq_true rfl) dX12_changes_176 (fun S_12 v_13 H locs h hG => ?_)
  refine lv_iload hx hb dX12_changes_179 (lv_at hl 4 rfl) ?_
  exact x_ri hM hG hr hlk rfl (k0 _ (Option.some.inj h).symm) dX12_changes_181
set_option maxHeartbeats 4000000 in
set_option maxRecDepth 100000 in
theorem w_X12_changes_111 {x1 : Int32} {x2 : Int32} {x3 : Int32} {x4 : Int32} (hM : xM p c cX12_changes m s args RX12 6 D cy xmb a z) (hr : meth.sig.returnType = (some .int)) (hlk : meth.locks = false) {S' : xSt} {v' : Int32} {S : xSt} {q : (xSt × Int32)} (h : f_X12_changes_111 x1 x2 x3 x4 S = some q) (k0 : ∀ t0 : xSt × Int32, q = t0 → t0 = (S', v')) {H : Heap} {locs : List Loc} (hG : xG D cy xmb a S s H locs) {ls : Array Slot} (hl : lv_has ls 6 [(0, .ref (a 0)), (1, .int x1), (2, .int x2), (3, .int x3), (4, .int x4)]) : W p l e ({ frames := 1, cells := 0, slots := 0, locals := 23 } : Room) s m args below meth c H locs 0 0 (MQ below (xQi D cy xmb a S' v' s.heap.size) args s 0 0 (xA xmb a s.heap.size)) (F0 m 111 ls []) := by
  have hx := hM.1
  have hb := hM.2.1
  refine lv_aload_n hx hb dX12_changes_111 rfl (lv_at hl 0 rfl) ?_
  refine lv_dup hx hb dX12_changes_112 rfl ?_
  refine x_gi hM hG xfl_X12_166 xmt_0 (by decide) rfl h dX12_changes_113 (fun v_1 h => ?_)
  refine lv_iconst (v := (1 : Int32)) hx hb dX12_changes_116 (by decide) ?_
  refine x_isub hM h dX12_changes_117 (fun v_2 h => ?_)
  refine x_pi hM hG xfl_X12_166 xfp_X12_10 xmt_0 (by decide) rfl rfl rfl h dX12_changes_118 (fun S_3 H locs h hG => ?_)
  exact w_X12_changes_121 hM hr hlk h (fun t0 e => k0 t0 e) hG (lv_sub hl [0, 1, 2, 3, 4] rfl)
set_option maxHeartbeats 4000000 in
set_option maxRecDepth 100000 in
theorem w_X12_changes_34 {x1 : Int32} {x2 : Int32} {x3 : Int32} {x4 : Int32} {x5 : Int32} (hM : xM p c cX12_changes m s args RX12 6 D cy xmb a z) (hr : meth.sig.returnType = (some .int)) (hlk : meth.locks = false) {S' : xSt} {v' : Int32} {S : xSt} {q : ((xSt × Int32) ⊕ (xSt × Int32))} (h : f_X12_changes_34 x1 x2 x3 x4 S x5 = some q) (k0 : ∀ t0 : xSt × Int32, q = (.inr t0) → t0 = (S', v')) (k1 : ∀ (S : xSt) (x5 : Int32), q = (.inl (S, x5)) → ∀ (H : Heap) (locs : List Loc) (ls : Array Slot), xG D cy xmb a S s H locs → lv_has ls 6 [(0, .ref (a 0)), (1, .int x1), (2, .int x2), (3, .int x3), (4, .int x4), (5, .int x5)] → W p l e ({ frames := 1, cells := 0, slots := 0, locals := 23 } : Room) s m args below meth c H locs 0 0 (MQ below (xQi D cy xmb a S' v' s.heap.size) args s 0 0 (xA xmb a s.heap.size)) (F0 m 34 ls [])) {H : Heap} {locs : List Loc} (hG : xG D cy xmb a S s H locs) {ls : Array Slot} (hl : lv_has ls 6 [(0, .ref (a 0)), (1, .int x1), (2, .int x2), (3, .int x3), (4, .int x4), (5, .int x5)]) : W p l e ({ frames := 1, cells := 0, slots := 0, locals := 23 } : Room) s m args below meth c H locs 0 0 (MQ below (xQi D cy xmb a S' v' s.heap.size) args s 0 0 (xA xmb a s.heap.size)) (F0 m 34 ls []) := by
  have hx := hM.1
  have hb := hM.2.1
  refine lv_iload hx hb dX12_changes_34 (lv_at hl 5 rfl) ?_
  refine lv_bipush (v := (40 : Int32)) hx hb dX12_changes_36 (by decide) ?_
  refine x_icmp_ge (tgt := 111) hM h dX12_changes_38 (by decide) (fun c_1 h => ?_) (fun c_1 h => ?_)
  · obtain ⟨q1, h, e1⟩ := xmr_at h
    exact w_X12_changes_111 hM hr hlk h (fun t0 e => k0 t0 (by rw [e1, e])) hG (lv_sub hl [0, 1, 2, 3, 4] rfl)
  · refine lv_aload_n hx hb dX12_changes_41 rfl (lv_at hl 0 rfl) ?_
    refine x_gr (r := 10) hM hG xfl_X12_39 xmt_0 (by decide) rfl dX12_changes_42 ?_
    refine lv_iload hx hb dX12_changes_45 (lv_at hl 5 rfl) ?_
    refine lv_iconst (v := (1 : Int32)) hx hb dX12_changes_47 (by decide) ?_
    refine x_isub hM h dX12_changes_48 (fun v_2 h => ?_)
    refine lv_aload_n hx hb dX12_changes_49 rfl (lv_at hl 0 rfl) ?_
    refine x_gr (r := 10) hM hG xfl_X12_39 xmt_0 (by decide) rfl dX12_changes_50 ?_
    refine lv_iload hx hb dX12_changes_53 (lv_at hl 5 rfl) ?_
    refine x_iald hM hG xmt_10 h dX12_changes_55 (fun v_3 h => ?_)
    refine x_iast hM hG xmt_10 h dX12_changes_56 (fun S_4 H locs h hG => ?_)
    refine lv_aload_n hx hb dX12_changes_57 rfl (lv_at hl 0 rfl) ?_
    refine x_gr (r := 11) hM hG xfl_X12_42 xmt_0 (by decide) rfl dX12_changes_58 ?_
    refine lv_iload hx hb dX12_changes_61 (lv_at hl 5 rfl) ?_
    refine lv_iconst (v := (1 : Int32)) hx hb dX12_changes_63 (by decide) ?_
    refine x_isub hM h dX12_changes_64 (fun v_5 h => ?_)
    refine lv_aload_n hx hb dX12_changes_65 rfl (lv_at hl 0 rfl) ?_
    refine x_gr (r := 11) hM hG xfl_X12_42 xmt_0 (by decide) rfl dX12_changes_66 ?_
    refine lv_iload hx hb dX12_changes_69 (lv_at hl 5 rfl) ?_
    refine x_iald hM hG xmt_11 h dX12_changes_71 (fun v_6 h => ?_)
    refine x_iast hM hG xmt_11 h dX12_changes_72 (fun S_7 H locs h hG => ?_)
    refine lv_aload_n hx hb dX12_changes_73 rfl (lv_at hl 0 rfl) ?_
    refine x_gr (r := 12) hM hG xfl_X12_45 xmt_0 (by decide) rfl dX12_changes_74 ?_
    refine lv_iload hx hb dX12_changes_77 (lv_at hl 5 rfl) ?_
    refine lv_iconst (v := (1 : Int32)) hx hb dX12_changes_79 (by decide) ?_
    refine x_isub hM h dX12_changes_80 (fun v_8 h => ?_)
    refine lv_aload_n hx hb dX12_changes_81 rfl (lv_at hl 0 rfl) ?_
    refine x_gr (r := 12) hM hG xfl_X12_45 xmt_0 (by decide) rfl dX12_changes_82 ?_
    refine lv_iload hx hb dX12_changes_85 (lv_at hl 5 rfl) ?_
    refine x_iald hM hG xmt_12 h dX12_changes_87 (fun v_9 h => ?_)
    refine x_iast hM hG xmt_12 h dX12_changes_88 (fun S_10 H locs h hG => ?_)
    refine lv_aload_n hx hb dX12_changes_89 rfl (lv_at hl 0 rfl) ?_
    refine x_gr (r := 13) hM hG xfl_X12_48 xmt_0 (by decide) rfl dX12_changes_90 ?_
    refine lv_iload hx hb dX12_changes_93 (lv_at hl 5 rfl) ?_
    refine lv_iconst (v := (1 : Int32)) hx hb dX12_changes_95 (by decide) ?_
    refine x_isub hM h dX12_changes_96 (fun v_11 h => ?_)
    refine lv_aload_n hx hb dX12_changes_97 rfl (lv_at hl 0 rfl) ?_
    refine x_gr (r := 13) hM hG xfl_X12_48 xmt_0 (by decide) rfl dX12_changes_98 ?_
    refine lv_iload hx hb dX12_changes_101 (lv_at hl 5 rfl) ?_
    refine x_iald hM hG xmt_13 h dX12_changes_103 (fun v_12 h => ?_)
    refine x_iast hM hG xmt_13 h dX12_changes_104 (fun S_13 H locs h hG => ?_)
    refine x_iinc hM (fun v => [(5, .int v), (0, .ref (a 0)), (1, .int x1), (2, .int x2), (3, .int x3), (4, .int x4)]) h dX12_changes_105 hl (k := 5) rfl (by decide) (by decide) (fun _ => rfl) (fun v_14 ls h hl => ?_)
    refine lv_goto (tgt := 34) hx hb dX12_changes_108 (by decide) ?_
    exact k1 _ _ (Option.some.inj h).symm _ _ _ hG (lv_sub hl [1, 2, 3, 4, 5, 0] rfl)
theorem wl_X12_changes_34 {x1 : Int32} {x2 : Int32} {x3 : Int32} {x4 : Int32} (hM : xM p c cX12_changes m s args RX12 6 D cy xmb a z) (hr : meth.sig.returnType = (some .int)) (hlk : meth.locks = false) {S' : xSt} {v' : Int32} {q : (xSt × Int32)} (k0 : ∀ t0 : xSt × Int32, q = t0 → t0 = (S', v')) (n : Nat) : ∀ (S : xSt) (x5 : Int32) (H : Heap) (locs : List Loc) (ls : Array Slot), xlp (fun q : (xSt × Int32) => f_X12_changes_34 x1 x2 x3 x4 q.1 q.2) n (S, x5) = some q → xG D cy xmb a S s H locs → lv_has ls 6 [(0, .ref (a 0)), (1, .int x1), (2, .int x2), (3, .int x3), (4, .int x4), (5, .int x5)] → W p l e ({ frames := 1, cells := 0, slots := 0, locals := 23 } : Room) s m args below meth c H locs 0 0 (MQ below (xQi D cy xmb a S' v' s.heap.size) args s 0 0 (xA xmb a s.heap.size)) (F0 m 34 ls []) := by
  induction n with
  | zero => intro S x5 H locs ls h; exact (xlp_0 h).elim
  | succ n ih =>
    intro S x5 H locs ls h hG hl
    obtain ⟨q1, hq, hc, he⟩ := xlp_at h
    exact w_X12_changes_34 hM hr hlk (q := q1) hq (fun t0 e => k0 t0 (he _ e).symm) (fun S x5 e H locs ls hG hl => ih S x5 H locs ls (hc _ e) hG hl) hG hl
set_option maxHeartbeats 4000000 in
set_option maxRecDepth 100000 in
theorem w_X12_changes_0 {x1 : Int32} {x2 : Int32} {x3 : Int32} (hM : xM p c cX12_changes m s args RX12 6 D cy xmb a z) (hr : meth.sig.returnType = (some .int)) (hlk : meth.locks = false) {S' : xSt} {v' : Int32} {S : xSt} {q : (xSt × Int32)} (h : f_X12_changes_0 x1 x2 x3 S = some q) (k0 : ∀ t0 : xSt × Int32, q = t0 → t0 = (S', v')) {H : Heap} {locs : List Loc} (hG : xG D cy xmb a S s H locs) {ls : Array Slot} (hl : lv_has ls 6 [(0, .ref (a 0)), (1, .int x1), (2, .int x2), (3, .int x3)]) : W p l e ({ frames := 1, cells := 0, slots := 0, locals := 23 } : Room) s m args below meth c H locs 0 0 (MQ below (xQi D cy xmb a S' v' s.heap.size) args s 0 0 (xA xmb a s.heap.size)) (F0 m 0 ls []) := by
  have hx := hM.1
  have hb := hM.2.1
  refine lv_aload_n hx hb dX12_changes_0 rfl (lv_at hl 0 rfl) ?_
  refine lv_iload_n hx hb dX12_changes_1 rfl (lv_at hl 1 rfl) ?_
  refine lv_iload_n hx hb dX12_changes_2 rfl (lv_at hl 2 rfl) ?_
  refine x_cVi (As := [.int x1, .int x2]) (rest := []) hM hG xml_X12_159 xwi_X12_valueAt xws_X12_valueAt xmt_0 (by decide) rfl h (fun S' v e => c_X12_valueAt hM.2.2.2.2.2.2.1 e _) ⟨Nat.le_of_ble_eq_true rfl, Nat.le_of_ble_eq_true rfl⟩ rfl hl.1 rfl (Nat.le_of_ble_eq_true rfl) dX12_changes_3 (fun S_1 v_2 H locs h hG => ?_)
  refine lv_istore (lv' := [(4, .int v_2), (0, .ref (a 0)), (1, .int x1), (2, .int x2), (3, .int x3)]) hx hb dX12_changes_6 hl (by decide) rfl (fun ls hl => ?_)
  refine lv_iload hx hb dX12_changes_8 (lv_at hl 0 rfl) ?_
  refine lv_iload_n hx hb dX12_changes_10 rfl (lv_at hl 4 rfl) ?_
  refine x_icmp_ne (tgt := 17) hM h dX12_changes_11 (by decide) (fun c_3 h => ?_) (fun c_3 h => ?_)
  · refine lv_aload_n hx hb dX12_changes_17 rfl (lv_at hl 1 rfl) ?_
    refine lv_iconst (v := (0 : Int32)) hx hb dX12_changes_18 (by decide) ?_
    refine x_pi hM hG xfl_X12_163 xfp_X12_11 xmt_0 (by decide) rfl rfl rfl h dX12_changes_19 (fun S_4 H locs h hG => ?_)
    refine lv_aload_n hx hb dX12_changes_22 rfl (lv_at hl 1 rfl) ?_
    refine x_gi hM hG xfl_X12_166 xmt_0 (by decide) rfl h dX12_changes_23 (fun v_5 h => ?_)
    refine lv_bipush (v := (40 : Int32)) hx hb dX12_changes_26 (by decide) ?_
    refine x_icmp_ne (tgt := 121) hM h dX12_changes_28 (by decide) (fun c_6 h => ?_) (fun c_6 h => ?_)
    · exact w_X12_changes_121 hM hr hlk h (fun t0 e => k0 t0 e) hG (lv_sub hl [1, 2, 3, 4, 0] rfl)
    · refine lv_iconst (v := (1 : Int32)) hx hb dX12_changes_31 (by decide) ?_
      refine lv_istore (lv' := [(5, .int (1 : Int32)), (4, .int v_2), (0, .ref (a 0)), (1, .int x1), (2, .int x2), (3, .int x3)]) hx hb dX12_changes_32 hl (by decide) rfl (fun ls hl => ?_)
      exact wl_X12_changes_34 hM hr hlk (fun t0 e => k0 t0 e) 5000 _ _ _ _ _ h hG (lv_sub hl [2, 3, 4, 5, 1, 0] rfl)
  · refine lv_iload hx hb dX12_changes_14 (lv_at hl 0 rfl) ?_
    exact x_ri hM hG hr hlk rfl (k0 _ (Option.some.inj h).symm) dX12_changes_16
set_option maxHeartbeats 4000000 in
set_option maxRecDepth 100000 in
theorem c_X12_changes {l : Launch} {D : va_G} {cy : Nat → ClassId} {a z : Nat → Nat} (hI : xI xmb a) {S : xSt} {x1 : Int32} {x2 : Int32} {x3 : Int32} {S' : xSt} {v' : Int32} (hf : f_X12_changes S x1 x2 x3 = some (S', v')) (sz : Nat) : Met l yX12_changes (Cond.code yX12_changes cX12_changes 6 (some .int) :: xTB) ({ frames := 1, cells := 0, slots := 0, locals := 23 } : Room) (va_Pc [.ref (a 0), .int x1, .int x2, .int x3] (xPre D cy xmb a z S sz)) (xQi D cy xmb a S' v' sz) 0 0 (xA xmb a sz) := by
  refine Met.ofW (cc := cX12_changes) (maxL := 6) (ret := (some .int)) (by decide) rfl ?_
  intro p e s m args below meth c s₁ B hml hv
  obtain ⟨rfl, hsz, hP, hK, hE⟩ := hv
  subst hsz
  have hl := lv_entry ([.ref (a 0), .int x1, .int x2, .int x3]) (n := 6) (Nat.le_of_ble_eq_true rfl)
  rw [lg_entry_eq]
  generalize (lg_sl ([.ref (a 0), .int x1, .int x2, .int x3]) ++ List.replicate (6 - (lg_sl ([.ref (a 0), .int x1, .int x2, .int x3])).length) Slot.unset).toArray = ls at hl ⊢
  have hl : lv_has ls 6 [(0, .ref (a 0)), (1, .int x1), (2, .int x2), (3, .int x3)] := hl
  exact w_X12_changes_0 ⟨B.exec, B.bytes, hml, findClass_of_methodNamed B.named, fun w hw => atoms_spec (ws := Cond.code yX12_changes cX12_changes 6 (some .int) :: xTB) B.pre w (List.mem_cons_of_mem _ hw), hK, hI, hE⟩ B.returns B.notSynchronized hf (fun t0 e => e.symm) ⟨hP, va_S.rf⟩ (lv_sub hl [0, 1, 2, 3] rfl)
set_option maxHeartbeats 4000000 in
set_option maxRecDepth 100000 in
theorem w_X12_undo_0 (hM : xM p c cX12_undo m s args RX12 1 D cy xmb a z) (hr : meth.sig.returnType = (some .int)) (hlk : meth.locks = false) {S' : xSt} {v' : Int32} {S : xSt} {q : (xSt × Int32)} (h : f_X12_undo_0 S = some q) (k0 : ∀ t0 : xSt × Int32, q = t0 → t0 = (S', v')) {H : Heap} {locs : List Loc} (hG : xG D cy xmb a S s H locs) {ls : Array Slot} (hl : lv_has ls 1 [(0, .ref (a 0))]) : W p l e ({ frames := 1, cells := 0, slots := 0, locals := 23 } : Room) s m args below meth c H locs 0 0 (MQ below (xQi D cy xmb a S' v' s.heap.size) args s 0 0 (xA xmb a s.heap.size)) (F0 m 0 ls []) := by
  have hx := hM.1
  have hb := hM.2.1
  refine lv_aload_n hx hb dX12_undo_0 rfl (lv_at hl 0 rfl) ?_
  refine x_gi hM hG xfl_X12_166 xmt_0 (by decide) rfl h dX12_undo_1 (fun v_1 h => ?_)
  refine x_if_ne (tgt := 10) hM h dX12_undo_4 (by decide) (fun c_2 h => ?_) (fun c_2 h => ?_)
  · refine lv_aload_n hx hb dX12_undo_10 rfl (lv_at hl 0 rfl) ?_
    refine lv_dup hx hb dX12_undo_11 rfl ?_
    refine x_gi hM hG xfl_X12_166 xmt_0 (by decide) rfl h dX12_undo_12 (fun v_3 h => ?_)
    refine lv_iconst (v := (1 : Int32)) hx hb dX12_undo_15 (by decide) ?_
    refine x_isub hM h dX12_undo_16 (fun v_4 h => ?_)
    refine x_pi hM hG xfl_X12_166 xfp_X12_10 xmt_0 (by decide) rfl rfl rfl h dX12_undo_17 (fun S_5 H locs h hG => ?_)
    refine lv_aload_n hx hb dX12_undo_20 rfl (lv_at hl 0 rfl) ?_
    refine lv_dup hx hb dX12_undo_21 rfl ?_
    refine x_gi hM hG xfl_X12_163 xmt_0 (by decide) rfl h dX12_undo_22 (fun v_6 h => ?_)
    refine lv_iconst (v := (1 : Int32)) hx hb dX12_undo_25 (by decide) ?_
    refine x_iadd hM h dX12_undo_26 (fun v_7 h => ?_)
    refine x_pi hM hG xfl_X12_163 xfp_X12_11 xmt_0 (by decide) rfl rfl rfl h dX12_undo_27 (fun S_8 H locs h hG => ?_)
    refine lv_aload_n hx hb dX12_undo_30 rfl (lv_at hl 0 rfl) ?_
    refine lv_aload_n hx hb dX12_undo_31 rfl (lv_at hl 0 rfl) ?_
    refine x_gr (r := 10) hM hG xfl_X12_39 xmt_0 (by decide) rfl dX12_undo_32 ?_
    refine lv_aload_n hx hb dX12_undo_35 rfl (lv_at hl 0 rfl) ?_
    refine x_gi hM hG xfl_X12_166 xmt_0 (by decide) rfl h dX12_undo_36 (fun v_9 h => ?_)
    refine x_iald hM hG xmt_10 h dX12_undo_39 (fun v_10 h => ?_)
    refine lv_aload_n hx hb dX12_undo_40 rfl (lv_at hl 0 rfl) ?_
    refine x_gr (r := 11) hM hG xfl_X12_42 xmt_0 (by decide) rfl dX12_undo_41 ?_
    refine lv_aload_n hx hb dX12_undo_44 rfl (lv_at hl 0 rfl) ?_
    refine x_gi hM hG xfl_X12_166 xmt_0 (by decide) rfl h dX12_undo_45 (fun v_11 h => ?_)
    refine x_iald hM hG xmt_11 h dX12_undo_48 (fun v_12 h => ?_)
    refine lv_aload_n hx hb dX12_undo_49 rfl (lv_at hl 0 rfl) ?_
    refine x_gr (r := 12) hM hG xfl_X12_45 xmt_0 (by decide) rfl dX12_undo_50 ?_
    refine lv_aload_n hx hb dX12_undo_53 rfl (lv_at hl 0 rfl) ?_
    refine x_gi hM hG xfl_X12_166 xmt_0 (by decide) rfl h dX12_undo_54 (fun v_13 h => ?_)
    refine x_iald hM hG xmt_12 h dX12_undo_57 (fun v_14 h => ?_)
    refine x_cVv (As := [.int v_10, .int v_12, .int v_14]) (rest := []) hM hG xml_X12_169 xwi_X12_lays xws_X12_lays xmt_0 (by decide) rfl h (fun S' v e => c_X12_lays hM.2.2.2.2.2.2.1 e _) ⟨Nat.le_of_ble_eq_true rfl, Nat.le_of_ble_eq_true rfl⟩ rfl hl.1 rfl (Nat.le_of_ble_eq_true rfl) dX12_undo_58 (fun S_15 v_16 H locs h hG => ?_)
    refine lv_aload_n hx hb dX12_undo_61 rfl (lv_at hl 0 rfl) ?_
    refine x_gi hM hG xfl_X12_166 xmt_0 (by decide) rfl h dX12_undo_62 (fun v_17 h => ?_)
    exact x_ri hM hG hr hlk rfl (k0 _ (Option.some.inj h).symm) dX12_undo_65
  · refine lv_bipush (v := (-5 : Int32)) hx hb dX12_undo_7 (by decide) ?_
    exact x_ri hM hG hr hlk rfl (k0 _ (Option.some.inj h).symm) dX12_undo_9
set_option maxHeartbeats 4000000 in
set_option maxRecDepth 100000 in
theorem c_X12_undo {l : Launch} {D : va_G} {cy : Nat → ClassId} {a z : Nat → Nat} (hI : xI xmb a) {S : xSt} {S' : xSt} {v' : Int32} (hf : f_X12_undo S = some (S', v')) (sz : Nat) : Met l yX12_undo (Cond.code yX12_undo cX12_undo 1 (some .int) :: xTB) ({ frames := 1, cells := 0, slots := 0, locals := 23 } : Room) (va_Pc [.ref (a 0)] (xPre D cy xmb a z S sz)) (xQi D cy xmb a S' v' sz) 0 0 (xA xmb a sz) := by
  refine Met.ofW (cc := cX12_undo) (maxL := 1) (ret := (some .int)) (by decide) rfl ?_
  intro p e s m args below meth c s₁ B hml hv
  obtain ⟨rfl, hsz, hP, hK, hE⟩ := hv
  subst hsz
  have hl := lv_entry ([.ref (a 0)]) (n := 1) (Nat.le_of_ble_eq_true rfl)
  rw [lg_entry_eq]
  generalize (lg_sl ([.ref (a 0)]) ++ List.replicate (1 - (lg_sl ([.ref (a 0)])).length) Slot.unset).toArray = ls at hl ⊢
  have hl : lv_has ls 1 [(0, .ref (a 0))] := hl
  exact w_X12_undo_0 ⟨B.exec, B.bytes, hml, findClass_of_methodNamed B.named, fun w hw => atoms_spec (ws := Cond.code yX12_undo cX12_undo 1 (some .int) :: xTB) B.pre w (List.mem_cons_of_mem _ hw), hK, hI, hE⟩ B.returns B.notSynchronized hf (fun t0 e => e.symm) ⟨hP, va_S.rf⟩ (lv_sub hl [0] rfl)
set_option maxHeartbeats 4000000 in
set_option maxRecDepth 100000 in
theorem w_X12_redo_0 (hM : xM p c cX12_redo m s args RX12 1 D cy xmb a z) (hr : meth.sig.returnType = (some .int)) (hlk : meth.locks = false) {S' : xSt} {v' : Int32} {S : xSt} {q : (xSt × Int32)} (h : f_X12_redo_0 S = some q) (k0 : ∀ t0 : xSt × Int32, q = t0 → t0 = (S', v')) {H : Heap} {locs : List Loc} (hG : xG D cy xmb a S s H locs) {ls : Array Slot} (hl : lv_has ls 1 [(0, .ref (a 0))]) : W p l e ({ frames := 1, cells := 0, slots := 0, locals := 23 } : Room) s m args below meth c H locs 0 0 (MQ below (xQi D cy xmb a S' v' s.heap.size) args s 0 0 (xA xmb a s.heap.size)) (F0 m 0 ls []) := by
  have hx := hM.1
  have hb := hM.2.1
  refine lv_aload_n hx hb dX12_redo_0 rfl (lv_at hl 0 rfl) ?_
  refine x_gi hM hG xfl_X12_163 xmt_0 (by decide) rfl h dX12_redo_1 (fun v_1 h => ?_)
  refine x_if_ne (tgt := 10) hM h dX12_redo_4 (by decide) (fun c_2 h => ?_) (fun c_2 h => ?_)
  · refine lv_aload_n hx hb dX12_redo_10 rfl (lv_at hl 0 rfl) ?_
    refine lv_aload_n hx hb dX12_redo_11 rfl (lv_at hl 0 rfl) ?_
    refine x_gr (r := 10) hM hG xfl_X12_39 xmt_0 (by decide) rfl dX12_redo_12 ?_
    refine lv_aload_n hx hb dX12_redo_15 rfl (lv_at hl 0 rfl) ?_
    refine x_gi hM hG xfl_X12_166 xmt_0 (by decide) rfl h dX12_redo_16 (fun v_3 h => ?_)
    refine x_iald hM hG xmt_10 h dX12_redo_19 (fun v_4 h => ?_)
    refine lv_aload_n hx hb dX12_redo_20 rfl (lv_at hl 0 rfl) ?_
    refine x_gr (r := 11) hM hG xfl_X12_42 xmt_0 (by decide) rfl dX12_redo_21 ?_
    refine lv_aload_n hx hb dX12_redo_24 rfl (lv_at hl 0 rfl) ?_
    refine x_gi hM hG xfl_X12_166 xmt_0 (by decide) rfl h dX12_redo_25 (fun v_5 h => ?_)
    refine x_iald hM hG xmt_11 h dX12_redo_28 (fun v_6 h => ?_)
    refine lv_aload_n hx hb dX12_redo_29 rfl (lv_at hl 0 rfl) ?_
    refine x_gr (r := 13) hM hG xfl_X12_48 xmt_0 (by decide) rfl dX12_redo_30 ?_
    refine lv_aload_n hx hb dX12_redo_33 rfl (lv_at hl 0 rfl) ?_
    refine x_gi hM hG xfl_X12_166 xmt_0 (by decide) rfl h dX12_redo_34 (fun v_7 h => ?_)
    refine x_iald hM hG xmt_13 h dX12_redo_37 (fun v_8 h => ?_)
    refine x_cVv (As := [.int v_4, .int v_6, .int v_8]) (rest := []) hM hG xml_X12_169 xwi_X12_lays xws_X12_lays xmt_0 (by decide) rfl h (fun S' v e => c_X12_lays hM.2.2.2.2.2.2.1 e _) ⟨Nat.le_of_ble_eq_true rfl, Nat.le_of_ble_eq_true rfl⟩ rfl hl.1 rfl (Nat.le_of_ble_eq_true rfl) dX12_redo_38 (fun S_9 v_10 H locs h hG => ?_)
    refine lv_aload_n hx hb dX12_redo_41 rfl (lv_at hl 0 rfl) ?_
    refine lv_dup hx hb dX12_redo_42 rfl ?_
    refine x_gi hM hG xfl_X12_166 xmt_0 (by decide) rfl h dX12_redo_43 (fun v_11 h => ?_)
    refine lv_iconst (v := (1 : Int32)) hx hb dX12_redo_46 (by decide) ?_
    refine x_iadd hM h dX12_redo_47 (fun v_12 h => ?_)
    refine x_pi hM hG xfl_X12_166 xfp_X12_10 xmt_0 (by decide) rfl rfl rfl h dX12_redo_48 (fun S_13 H locs h hG => ?_)
    refine lv_aload_n hx hb dX12_redo_51 rfl (lv_at hl 0 rfl) ?_
    refine lv_dup hx hb dX12_redo_52 rfl ?_
    refine x_gi hM hG xfl_X12_163 xmt_0 (by decide) rfl h dX12_redo_53 (fun v_14 h => ?_)
    refine lv_iconst (v := (1 : Int32)) hx hb dX12_redo_56 (by decide) ?_
    refine x_isub hM h dX12_redo_57 (fun v_15 h => ?_)
    refine x_pi hM hG xfl_X12_163 xfp_X12_11 xmt_0 (by decide) rfl rfl rfl h dX12_redo_58 (fun S_16 H locs h hG => ?_)
    refine lv_aload_n hx hb dX12_redo_61 rfl (lv_at hl 0 rfl) ?_
    refine x_gi hM hG xfl_X12_163 xmt_0 (by decide) rfl h dX12_redo_62 (fun v_17 h => ?_)
    exact x_ri hM hG hr hlk rfl (k0 _ (Option.some.inj h).symm) dX12_redo_65
  · refine lv_bipush (v := (-5 : Int32)) hx hb dX12_redo_7 (by decide) ?_
    exact x_ri hM hG hr hlk rfl (k0 _ (Option.some.inj h).symm) dX12_redo_9
set_option maxHeartbeats 4000000 in
set_option maxRecDepth 100000 in
theorem c_X12_redo {l : Launch} {D : va_G} {cy : Nat → ClassId} {a z : Nat → Nat} (hI : xI xmb a) {S : xSt} {S' : xSt} {v' : Int32} (hf : f_X12_redo S = some (S', v')) (sz : Nat) : Met l yX12_redo (Cond.code yX12_redo cX12_redo 1 (some .int) :: xTB) ({ frames := 1, cells := 0, slots := 0, locals := 23 } : Room) (va_Pc [.ref (a 0)] (xPre D cy xmb a z S sz)) (xQi D cy xmb a S' v' sz) 0 0 (xA xmb a sz) := by
  refine Met.ofW (cc := cX12_redo) (maxL := 1) (ret := (some .int)) (by decide) rfl ?_
  intro p e s m args below meth c s₁ B hml hv
  obtain ⟨rfl, hsz, hP, hK, hE⟩ := hv
  subst hsz
  have hl := lv_entry ([.ref (a 0)]) (n := 1) (Nat.le_of_ble_eq_true rfl)
  rw [lg_entry_eq]
  generalize (lg_sl ([.ref (a 0)]) ++ List.replicate (1 - (lg_sl ([.ref (a 0)])).length) Slot.unset).toArray = ls at hl ⊢
  have hl : lv_has ls 1 [(0, .ref (a 0))] := hl
  exact w_X12_redo_0 ⟨B.exec, B.bytes, hml, findClass_of_methodNamed B.named, fun w hw => atoms_spec (ws := Cond.code yX12_redo cX12_redo 1 (some .int) :: xTB) B.pre w (List.mem_cons_of_mem _ hw), hK, hI, hE⟩ B.returns B.notSynchronized hf (fun t0 e => e.symm) ⟨hP, va_S.rf⟩ (lv_sub hl [0] rfl)
set_option maxHeartbeats 4000000 in
set_option maxRecDepth 100000 in
theorem w_X12_isPlace_48 (hM : xM p c cX12_isPlace m s args RX12 3 D cy xmb a z) (hr : meth.sig.returnType = (some .boolean)) (hlk : meth.locks = false) {S' : xSt} {v' : Int32} {S : xSt} {q : (xSt × Int32)} (h : f_X12_isPlace_48 S = some q) (k0 : ∀ t0 : xSt × Int32, q = t0 → t0 = (S', v')) {H : Heap} {locs : List Loc} (hG : xG D cy xmb a S s H locs) {ls : Array Slot} (hl : lv_has ls 3 []) : W p l e ({ frames := 2, cells := 0, slots := 0, locals := 43 } : Room) s m args below meth c H locs 0 0 (MQ below (xQi D cy xmb a S' v' s.heap.size) args s 0 0 (xA xmb a s.heap.size)) (F0 m 48 ls []) := by
  have hx := hM.1
  have hb := hM.2.1
  refine lv_iconst (v := (0 : Int32)) hx hb dX12_isPlace_48 (by decide) ?_
  obtain ⟨hz, h⟩ := xgd_at h
  exact x_ri hM hG hr hlk (x_nz hz) (k0 _ (Option.some.inj h).symm) dX12_isPlace_49
set_option maxHeartbeats 4000000 in
set_option maxRecDepth 100000 in
theorem w_X12_isPlace_0 {x1 : Int32} {x2 : Int32} (hM : xM p c cX12_isPlace m s args RX12 3 D cy xmb a z) (hr : meth.sig.returnType = (some .boolean)) (hlk : meth.locks = false) {S' : xSt} {v' : Int32} {S : xSt} {q : (xSt × Int32)} (h : f_X12_isPlace_0 x1 x2 S = some q) (k0 : ∀ t0 : xSt × Int32, q = t0 → t0 = (S', v')) {H : Heap} {locs : List Loc} (hG : xG D cy xmb a S s H locs) {ls : Array Slot} (hl : lv_has ls 3 [(0, .ref (a 0)), (1, .int x1), (2, .int x2)]) : W p l e ({ frames := 2, cells := 0, slots := 0, locals := 43 } : Room) s m args below meth c H locs 0 0 (MQ below (xQi D cy xmb a S' v' s.heap.size) args s 0 0 (xA xmb a s.heap.size)) (F0 m 0 ls []) := by
  have hx := hM.1
  have hb := hM.2.1
  refine lv_iload_n hx hb dX12_isPlace_0 rfl (lv_at hl 2 rfl) ?_
  refine lv_iconst (v := (0 : Int32)) hx hb dX12_isPlace_1 (by decide) ?_
  refine lv_iconst (v := (4 : Int32)) hx hb dX12_isPlace_2 (by decide) ?_
  refine x_cSi (As := [.int x2, .int (0 : Int32), .int (4 : Int32)]) (rest := []) hM hG xml_X12_142 xwt_X12_in h (fun S' v e => c_X12_in hM.2.2.2.2.2.2.1 e _) ⟨Nat.le_of_ble_eq_true rfl, Nat.le_of_ble_eq_true rfl⟩ rfl hl.1 rfl (Nat.le_of_ble_eq_true rfl) dX12_isPlace_3 (fun S_1 v_2 H locs h hG => ?_)
  refine x_if_eq (tgt := 17) hM h dX12_isPlace_6 (by decide) (fun c_3 h => ?_) (fun c_3 h => ?_)
  · refine lv_iload_n hx hb dX12_isPlace_17 rfl (lv_at hl 2 rfl) ?_
    refine lv_iconst (v := (5 : Int32)) hx hb dX12_isPlace_18 (by decide) ?_
    refine x_icmp_ne (tgt := 29) hM h dX12_isPlace_19 (by decide) (fun c_4 h => ?_) (fun c_4 h => ?_)
    · refine lv_iload_n hx hb dX12_isPlace_29 rfl (lv_at hl 2 rfl) ?_
      refine lv_bipush (v := (6 : Int32)) hx hb dX12_isPlace_30 (by decide) ?_
      refine lv_bipush (v := (7 : Int32)) hx hb dX12_isPlace_32 (by decide) ?_
      refine x_cSi (As := [.int x2, .int (6 : Int32), .int (7 : Int32)]) (rest := []) hM hG xml_X12_142 xwt_X12_in h (fun S' v e => c_X12_in hM.2.2.2.2.2.2.1 e _) ⟨Nat.le_of_ble_eq_true rfl, Nat.le_of_ble_eq_true rfl⟩ rfl hl.1 rfl (Nat.le_of_ble_eq_true rfl) dX12_isPlace_34 (fun S_5 v_6 H locs h hG => ?_)
      refine x_if_eq (tgt := 48) hM h dX12_isPlace_37 (by decide) (fun c_7 h => ?_) (fun c_7 h => ?_)
      · exact w_X12_isPlace_48 hM hr hlk h (fun t0 e => k0 t0 e) hG (lv_sub hl [] rfl)
      · refine lv_iload_n hx hb dX12_isPlace_40 rfl (lv_at hl 1 rfl) ?_
        refine x_if_ne (tgt := 48) hM h dX12_isPlace_41 (by decide) (fun c_8 h => ?_) (fun c_8 h => ?_)
        · exact w_X12_isPlace_48 hM hr hlk h (fun t0 e => k0 t0 e) hG (lv_sub hl [] rfl)
        · refine lv_iconst (v := (1 : Int32)) hx hb dX12_isPlace_44 (by decide) ?_
          refine lv_goto (tgt := 49) hx hb dX12_isPlace_45 (by decide) ?_
          obtain ⟨hz, h⟩ := xgd_at h
          exact x_ri hM hG hr hlk (x_nz hz) (k0 _ (Option.some.inj h).symm) dX12_isPlace_49
    · refine lv_iload_n hx hb dX12_isPlace_22 rfl (lv_at hl 1 rfl) ?_
      refine x_cSi (As := [.int x1]) (rest := []) hM hG xml_X12_146 xwt_X12_isColumn h (fun S' v e => c_X12_isColumn hM.2.2.2.2.2.2.1 e _) ⟨Nat.le_of_ble_eq_true rfl, Nat.le_of_ble_eq_true rfl⟩ rfl hl.1 rfl (Nat.le_of_ble_eq_true rfl) dX12_isPlace_23 (fun S_9 v_10 H locs h hG => ?_)
      refine lv_goto (tgt := 49) hx hb dX12_isPlace_26 (by decide) ?_
      obtain ⟨hz, h⟩ := xgd_at h
      exact x_ri hM hG hr hlk (x_nz hz) (k0 _ (Option.some.inj h).symm) dX12_isPlace_49
  · refine lv_aload_n hx hb dX12_isPlace_9 rfl (lv_at hl 0 rfl) ?_
    refine lv_iload_n hx hb dX12_isPlace_10 rfl (lv_at hl 1 rfl) ?_
    refine x_cVi (As := [.int x1]) (rest := []) hM hG xml_X12_173 xwi_X12_isCell xws_X12_isCell xmt_0 (by decide) rfl h (fun S' v e => c_X12_isCell hM.2.2.2.2.2.2.1 e _) ⟨Nat.le_of_ble_eq_true rfl, Nat.le_of_ble_eq_true rfl⟩ rfl hl.1 rfl (Nat.le_of_ble_eq_true rfl) dX12_isPlace_11 (fun S_11 v_12 H locs h hG => ?_)
    refine lv_goto (tgt := 49) hx hb dX12_isPlace_14 (by decide) ?_
    obtain ⟨hz, h⟩ := xgd_at h
    exact x_ri hM hG hr hlk (x_nz hz) (k0 _ (Option.some.inj h).symm) dX12_isPlace_49
set_option maxHeartbeats 4000000 in
set_option maxRecDepth 100000 in
theorem c_X12_isPlace {l : Launch} {D : va_G} {cy : Nat → ClassId} {a z : Nat → Nat} (hI : xI xmb a) {S : xSt} {x1 : Int32} {x2 : Int32} {S' : xSt} {v' : Int32} (hf : f_X12_isPlace S x1 x2 = some (S', v')) (sz : Nat) : Met l yX12_isPlace (Cond.code yX12_isPlace cX12_isPlace 3 (some .boolean) :: xTB) ({ frames := 2, cells := 0, slots := 0, locals := 43 } : Room) (va_Pc [.ref (a 0), .int x1, .int x2] (xPre D cy xmb a z S sz)) (xQi D cy xmb a S' v' sz) 0 0 (xA xmb a sz) := by
  refine Met.ofW (cc := cX12_isPlace) (maxL := 3) (ret := (some .boolean)) (by decide) rfl ?_
  intro p e s m args below meth c s₁ B hml hv
  obtain ⟨rfl, hsz, hP, hK, hE⟩ := hv
  subst hsz
  have hl := lv_entry ([.ref (a 0), .int x1, .int x2]) (n := 3) (Nat.le_of_ble_eq_true rfl)
  rw [lg_entry_eq]
  generalize (lg_sl ([.ref (a 0), .int x1, .int x2]) ++ List.replicate (3 - (lg_sl ([.ref (a 0), .int x1, .int x2])).length) Slot.unset).toArray = ls at hl ⊢
  have hl : lv_has ls 3 [(0, .ref (a 0)), (1, .int x1), (2, .int x2)] := hl
  exact w_X12_isPlace_0 ⟨B.exec, B.bytes, hml, findClass_of_methodNamed B.named, fun w hw => atoms_spec (ws := Cond.code yX12_isPlace cX12_isPlace 3 (some .boolean) :: xTB) B.pre w (List.mem_cons_of_mem _ hw), hK, hI, hE⟩ B.returns B.notSynchronized hf (fun t0 e => e.symm) ⟨hP, va_S.rf⟩ (lv_sub hl [0, 1, 2] rfl)
set_option maxHeartbeats 4000000 in
set_option maxRecDepth 100000 in
theorem w_X12_mayHave_0 {x0 : Int32} {x1 : Int32} (hM : xM p c cX12_mayHave m s args RX12 2 D cy xmb a z) (hr : meth.sig.returnType = (some .boolean)) (hlk : meth.locks = false) {S' : xSt} {v' : Int32} {S : xSt} {q : (xSt × Int32)} (h : f_X12_mayHave_0 x0 x1 S = some q) (k0 : ∀ t0 : xSt × Int32, q = t0 → t0 = (S', v')) {H : Heap} {locs : List Loc} (hG : xG D cy xmb a S s H locs) {ls : Array Slot} (hl : lv_has ls 2 [(0, .int x0), (1, .int x1)]) : W p l e ({ frames := 1, cells := 0, slots := 0, locals := 22 } : Room) s m args below meth c H locs 0 0 (MQ below (xQi D cy xmb a S' v' s.heap.size) args s 0 0 (xA xmb a s.heap.size)) (F0 m 0 ls []) := by
  have hx := hM.1
  have hb := hM.2.1
  refine lv_iload_n hx hb dX12_mayHave_0 rfl (lv_at hl 0 rfl) ?_
  by_cases c_1 : x0 = (0 : Int32)
  · have h := (if_pos c_1).symm.trans h
    refine lv_tableIn (off := 43) (tgt := 44) hx hb dX12_mayHave_1 (by rw [c_1]; decide) (by rw [c_1]; decide) (by rw [c_1]; rfl) (by decide) ?_
    refine lv_iload_n hx hb dX12_mayHave_44 rfl (lv_at hl 1 rfl) ?_
    refine lv_iconst (v := (0 : Int32)) hx hb dX12_mayHave_45 (by decide) ?_
    refine lv_bipush (v := (9 : Int32)) hx hb dX12_mayHave_46 (by decide) ?_
    refine x_cSi (As := [.int x1, .int (0 : Int32), .int (9 : Int32)]) (rest := []) hM hG xml_X12_142 xwt_X12_in h (fun S' v e => c_X12_in hM.2.2.2.2.2.2.1 e _) ⟨Nat.le_of_ble_eq_true rfl, Nat.le_of_ble_eq_true rfl⟩ rfl hl.1 rfl (Nat.le_of_ble_eq_true rfl) dX12_mayHave_48 (fun S_2 v_3 H locs h hG => ?_)
    obtain ⟨hz, h⟩ := xgd_at h
    exact x_ri hM hG hr hlk (x_nz hz) (k0 _ (Option.some.inj h).symm) dX12_mayHave_51
  · have h := (if_neg c_1).symm.trans h
    by_cases c_4 : x0 = (1 : Int32)
    · have h := (if_pos c_4).symm.trans h
      refine lv_tableIn (off := 82) (tgt := 83) hx hb dX12_mayHave_1 (by rw [c_4]; decide) (by rw [c_4]; decide) (by rw [c_4]; rfl) (by decide) ?_
      refine lv_iload_n hx hb dX12_mayHave_83 rfl (lv_at hl 1 rfl) ?_
      refine lv_iconst (v := (0 : Int32)) hx hb dX12_mayHave_84 (by decide) ?_
      refine lv_bipush (v := (99 : Int32)) hx hb dX12_mayHave_85 (by decide) ?_
      refine x_cSi (As := [.int x1, .int (0 : Int32), .int (99 : Int32)]) (rest := []) hM hG xml_X12_142 xwt_X12_in h (fun S' v e => c_X12_in hM.2.2.2.2.2.2.1 e _) ⟨Nat.le_of_ble_eq_true rfl, Nat.le_of_ble_eq_true rfl⟩ rfl hl.1 rfl (Nat.le_of_ble_eq_true rfl) dX12_mayHave_87 (fun S_5 v_6 H locs h hG => ?_)
      obtain ⟨hz, h⟩ := xgd_at h
      exact x_ri hM hG hr hlk (x_nz hz) (k0 _ (Option.some.inj h).symm) dX12_mayHave_90
    · have h := (if_neg c_4).symm.trans h
      by_cases c_7 : x0 = (2 : Int32)
      · have h := (if_pos c_7).symm.trans h
        refine lv_tableIn (off := 82) (tgt := 83) hx hb dX12_mayHave_1 (by rw [c_7]; decide) (by rw [c_7]; decide) (by rw [c_7]; rfl) (by decide) ?_
        refine lv_iload_n hx hb dX12_mayHave_83 rfl (lv_at hl 1 rfl) ?_
        refine lv_iconst (v := (0 : Int32)) hx hb dX12_mayHave_84 (by decide) ?_
        refine lv_bipush (v := (99 : Int32)) hx hb dX12_mayHave_85 (by decide) ?_
        refine x_cSi (As := [.int x1, .int (0 : Int32), .int (99 : Int32)]) (rest := []) hM hG xml_X12_142 xwt_X12_in h (fun S' v e => c_X12_in hM.2.2.2.2.2.2.1 e _) ⟨Nat.le_of_ble_eq_true rfl, Nat.le_of_ble_eq_true rfl⟩ rfl hl.1 rfl (Nat.le_of_ble_eq_true rfl) dX12_mayHave_87 (fun S_8 v_9 H locs h hG => ?_)
        obtain ⟨hz, h⟩ := xgd_at h
        exact x_ri hM hG hr hlk (x_nz hz) (k0 _ (Option.some.inj h).symm) dX12_mayHave_90
      · have h := (if_neg c_7).symm.trans h
        by_cases c_10 : x0 = (3 : Int32)
        · have h := (if_pos c_10).symm.trans h
          refine lv_tableIn (off := 51) (tgt := 52) hx hb dX12_mayHave_1 (by rw [c_10]; decide) (by rw [c_10]; decide) (by rw [c_10]; rfl) (by decide) ?_
          refine lv_iload_n hx hb dX12_mayHave_52 rfl (lv_at hl 1 rfl) ?_
          refine lv_iconst (v := (0 : Int32)) hx hb dX12_mayHave_53 (by decide) ?_
          refine lv_iconst (v := (1 : Int32)) hx hb dX12_mayHave_54 (by decide) ?_
          refine x_cSi (As := [.int x1, .int (0 : Int32), .int (1 : Int32)]) (rest := []) hM hG xml_X12_142 xwt_X12_in h (fun S' v e => c_X12_in hM.2.2.2.2.2.2.1 e _) ⟨Nat.le_of_ble_eq_true rfl, Nat.le_of_ble_eq_true rfl⟩ rfl hl.1 rfl (Nat.le_of_ble_eq_true rfl) dX12_mayHave_55 (fun S_11 v_12 H locs h hG => ?_)
          obtain ⟨hz, h⟩ := xgd_at h
          exact x_ri hM hG hr hlk (x_nz hz) (k0 _ (Option.some.inj h).symm) dX12_mayHave_58
        · have h := (if_neg c_10).symm.trans h
          by_cases c_13 : x0 = (4 : Int32)
          · have h := (if_pos c_13).symm.trans h
            refine lv_tableIn (off := 58) (tgt := 59) hx hb dX12_mayHave_1 (by rw [c_13]; decide) (by rw [c_13]; decide) (by rw [c_13]; rfl) (by decide) ?_
            refine lv_iload_n hx hb dX12_mayHave_59 rfl (lv_at hl 1 rfl) ?_
            refine lv_iconst (v := (0 : Int32)) hx hb dX12_mayHave_60 (by decide) ?_
            refine lv_bipush (v := (9 : Int32)) hx hb dX12_mayHave_61 (by decide) ?_
            refine x_cSi (As := [.int x1, .int (0 : Int32), .int (9 : Int32)]) (rest := []) hM hG xml_X12_142 xwt_X12_in h (fun S' v e => c_X12_in hM.2.2.2.2.2.2.1 e _) ⟨Nat.le_of_ble_eq_true rfl, Nat.le_of_ble_eq_true rfl⟩ rfl hl.1 rfl (Nat.le_of_ble_eq_true rfl) dX12_mayHave_63 (fun S_14 v_15 H locs h hG => ?_)
            obtain ⟨hz, h⟩ := xgd_at h
            exact x_ri hM hG hr hlk (x_nz hz) (k0 _ (Option.some.inj h).symm) dX12_mayHave_66
          · have h := (if_neg c_13).symm.trans h
            by_cases c_16 : x0 = (5 : Int32)
            · have h := (if_pos c_16).symm.trans h
              refine lv_tableIn (off := 66) (tgt := 67) hx hb dX12_mayHave_1 (by rw [c_16]; decide) (by rw [c_16]; decide) (by rw [c_16]; rfl) (by decide) ?_
              refine lv_iload_n hx hb dX12_mayHave_67 rfl (lv_at hl 1 rfl) ?_
              refine lv_iconst (v := (0 : Int32)) hx hb dX12_mayHave_68 (by decide) ?_
              refine lv_iconst (v := (1 : Int32)) hx hb dX12_mayHave_69 (by decide) ?_
              refine x_cSi (As := [.int x1, .int (0 : Int32), .int (1 : Int32)]) (rest := []) hM hG xml_X12_142 xwt_X12_in h (fun S' v e => c_X12_in hM.2.2.2.2.2.2.1 e _) ⟨Nat.le_of_ble_eq_true rfl, Nat.le_of_ble_eq_true rfl⟩ rfl hl.1 rfl (Nat.le_of_ble_eq_true rfl) dX12_mayHave_70 (fun S_17 v_18 H locs h hG => ?_)
              obtain ⟨hz, h⟩ := xgd_at h
              exact x_ri hM hG hr hlk (x_nz hz) (k0 _ (Option.some.inj h).symm) dX12_mayHave_73
            · have h := (if_neg c_16).symm.trans h
              by_cases c_19 : x0 = (6 : Int32)
              · have h := (if_pos c_19).symm.trans h
                refine lv_tableIn (off := 73) (tgt := 74) hx hb dX12_mayHave_1 (by rw [c_19]; decide) (by rw [c_19]; decide) (by rw [c_19]; rfl) (by decide) ?_
                refine lv_iload_n hx hb dX12_mayHave_74 rfl (lv_at hl 1 rfl) ?_
                refine lv_bipush (v := (30 : Int32)) hx hb dX12_mayHave_75 (by decide) ?_
                refine lv_bipush (v := (99 : Int32)) hx hb dX12_mayHave_77 (by decide) ?_
                refine x_cSi (As := [.int x1, .int (30 : Int32), .int (99 : Int32)]) (rest := []) hM hG xml_X12_142 xwt_X12_in h (fun S' v e => c_X12_in hM.2.2.2.2.2.2.1 e _) ⟨Nat.le_of_ble_eq_true rfl, Nat.le_of_ble_eq_true rfl⟩ rfl hl.1 rfl (Nat.le_of_ble_eq_true rfl) dX12_mayHave_79 (fun S_20 v_21 H locs h hG => ?_)
                obtain ⟨hz, h⟩ := xgd_at h
                exact x_ri hM hG hr hlk (x_nz hz) (k0 _ (Option.some.inj h).symm) dX12_mayHave_82
              · have h := (if_neg c_19).symm.trans h
                refine lv_tableOut (tgt := 83) hx hb dX12_mayHave_1 (x_tout [(0 : Int32), (1 : Int32), (2 : Int32), (3 : Int32), (4 : Int32), (5 : Int32), (6 : Int32)] 0 (by decide) (by decide) (List.forall_mem_cons.mpr ⟨c_1, (List.forall_mem_cons.mpr ⟨c_4, (List.forall_mem_cons.mpr ⟨c_7, (List.forall_mem_cons.mpr ⟨c_10, (List.forall_mem_cons.mpr ⟨c_13, (List.forall_mem_cons.mpr ⟨c_16, (List.forall_mem_cons.mpr ⟨c_19, (fun _ h => absurd h List.not_mem_nil)⟩)⟩)⟩)⟩)⟩)⟩)⟩)) (by decide) ?_
                refine lv_iload_n hx hb dX12_mayHave_83 rfl (lv_at hl 1 rfl) ?_
                refine lv_iconst (v := (0 : Int32)) hx hb dX12_mayHave_84 (by decide) ?_
                refine lv_bipush (v := (99 : Int32)) hx hb dX12_mayHave_85 (by decide) ?_
                refine x_cSi (As := [.int x1, .int (0 : Int32), .int (99 : Int32)]) (rest := []) hM hG xml_X12_142 xwt_X12_in h (fun S' v e => c_X12_in hM.2.2.2.2.2.2.1 e _) ⟨Nat.le_of_ble_eq_true rfl, Nat.le_of_ble_eq_true rfl⟩ rfl hl.1 rfl (Nat.le_of_ble_eq_true rfl) dX12_mayHave_87 (fun S_22 v_23 H locs h hG => ?_)
                obtain ⟨hz, h⟩ := xgd_at h
                exact x_ri hM hG hr hlk (x_nz hz) (k0 _ (Option.some.inj h).symm) dX12_mayHave_90
set_option maxHeartbeats 4000000 in
set_option maxRecDepth 100000 in
theorem c_X12_mayHave {l : Launch} {D : va_G} {cy : Nat → ClassId} {a z : Nat → Nat} (hI : xI xmb a) {S : xSt} {x0 : Int32} {x1 : Int32} {S' : xSt} {v' : Int32} (hf : f_X12_mayHave S x0 x1 = some (S', v')) (sz : Nat) : Met l yX12_mayHave (Cond.code yX12_mayHave cX12_mayHave 2 (some .boolean) :: xTB) ({ frames := 1, cells := 0, slots := 0, locals := 22 } : Room) (va_Pc [.int x0, .int x1] (xPre D cy xmb a z S sz)) (xQi D cy xmb a S' v' sz) 0 0 (xA xmb a sz) := by
  refine Met.ofW (cc := cX12_mayHave) (maxL := 2) (ret := (some .boolean)) (by decide) rfl ?_
  intro p e s m args below meth c s₁ B hml hv
  obtain ⟨rfl, hsz, hP, hK, hE⟩ := hv
  subst hsz
  have hl := lv_entry ([.int x0, .int x1]) (n := 2) (Nat.le_of_ble_eq_true rfl)
  rw [lg_entry_eq]
  generalize (lg_sl ([.int x0, .int x1]) ++ List.replicate (2 - (lg_sl ([.int x0, .int x1])).length) Slot.unset).toArray = ls at hl ⊢
  have hl : lv_has ls 2 [(0, .int x0), (1, .int x1)] := hl
  exact w_X12_mayHave_0 ⟨B.exec, B.bytes, hml, findClass_of_methodNamed B.named, fun w hw => atoms_spec (ws := Cond.code yX12_mayHave cX12_mayHave 2 (some .boolean) :: xTB) B.pre w (List.mem_cons_of_mem _ hw), hK, hI, hE⟩ B.returns B.notSynchronized hf (fun t0 e => e.symm) ⟨hP, va_S.rf⟩ (lv_sub hl [0, 1] rfl)
set_option maxHeartbeats 4000000 in
set_option maxRecDepth 100000 in
theorem w_X12_mend_27 (hM : xM p c cX12_mend m s args RX12 4 D cy xmb a z) (hr : meth.sig.returnType = (some .int)) (hlk : meth.locks = false) {S' : xSt} {v' : Int32} {S : xSt} {q : (xSt × Int32)} (h : f_X12_mend_27 S = some q) (k0 : ∀ t0 : xSt × Int32, q = t0 → t0 = (S', v')) {H : Heap} {locs : List Loc} (hG : xG D cy xmb a S s H locs) {ls : Array Slot} (hl : lv_has ls 4 []) : W p l e ({ frames := 3, cells := 0, slots := 0, locals := 65 } : Room) s m args below meth c H locs 0 0 (MQ below (xQi D cy xmb a S' v' s.heap.size) args s 0 0 (xA xmb a s.heap.size)) (F0 m 27 ls []) := by
  have hx := hM.1
  have hb := hM.2.1
  refine lv_iconst (v := (-1 : Int32)) hx hb dX12_mend_27 (by decide) ?_
  exact x_ri hM hG hr hlk rfl (k0 _ (Option.some.inj h).symm) dX12_mend_28
set_option maxHeartbeats 4000000 in
set_option maxRecDepth 100000 in
theorem w_X12_mend_0 {x1 : Int32} {x2 : Int32} {x3 : Int32} (hM : xM p c cX12_mend m s args RX12 4 D cy xmb a z) (hr : meth.sig.returnType = (some .int)) (hlk : meth.locks = false) {S' : xSt} {v' : Int32} {S : xSt} {q : (xSt × Int32)} (h : f_X12_mend_0 x1 x2 x3 S = some q) (k0 : ∀ t0 : xSt × Int32, q = t0 → t0 = (S', v')) {H : Heap} {locs : List Loc} (hG : xG D cy xmb a S s H locs) {ls : Array Slot} (hl : lv_has ls 4 [(0, .ref (a 0)), (1, .int x1), (2, .int x2), (3, .int x3)]) : W p l e ({ frames := 3, cells := 0, slots := 0, locals := 65 } : Room) s m args below meth c H locs 0 0 (MQ below (xQi D cy xmb a S' v' s.heap.size) args s 0 0 (xA xmb a s.heap.size)) (F0 m 0 ls []) := by
  have hx := hM.1
  have hb := hM.2.1
  refine lv_aload_n hx hb dX12_mend_0 rfl (lv_at hl 0 rfl) ?_
  refine lv_iload_n hx hb dX12_mend_1 rfl (lv_at hl 1 rfl) ?_
  refine lv_iload_n hx hb dX12_mend_2 rfl (lv_at hl 2 rfl) ?_
  refine x_cVi (As := [.int x1, .int x2]) (rest := []) hM hG xml_X12_176 xwi_X12_isPlace xws_X12_isPlace xmt_0 (by decide) rfl h (fun S' v e => c_X12_isPlace hM.2.2.2.2.2.2.1 e _) ⟨Nat.le_of_ble_eq_true rfl, Nat.le_of_ble_eq_true rfl⟩ rfl hl.1 rfl (Nat.le_of_ble_eq_true rfl) dX12_mend_3 (fun S_1 v_2 H locs h hG => ?_)
  refine x_if_eq (tgt := 27) hM h dX12_mend_6 (by decide) (fun c_3 h => ?_) (fun c_3 h => ?_)
  · exact w_X12_mend_27 hM hr hlk h (fun t0 e => k0 t0 e) hG (lv_sub hl [] rfl)
  · refine lv_iload_n hx hb dX12_mend_9 rfl (lv_at hl 2 rfl) ?_
    refine lv_iload_n hx hb dX12_mend_10 rfl (lv_at hl 3 rfl) ?_
    refine x_cSi (As := [.int x2, .int x3]) (rest := []) hM hG xml_X12_180 xwt_X12_mayHave h (fun S' v e => c_X12_mayHave hM.2.2.2.2.2.2.1 e _) ⟨Nat.le_of_ble_eq_true rfl, Nat.le_of_ble_eq_true rfl⟩ rfl hl.1 rfl (Nat.le_of_ble_eq_true rfl) dX12_mend_11 (fun S_4 v_5 H locs h hG => ?_)
    refine x_if_eq (tgt := 27) hM h dX12_mend_14 (by decide) (fun c_6 h => ?_) (fun c_6 h => ?_)
    · exact w_X12_mend_27 hM hr hlk h (fun t0 e => k0 t0 e) hG (lv_sub hl [] rfl)
    · refine lv_aload_n hx hb dX12_mend_17 rfl (lv_at hl 0 rfl) ?_
      refine lv_iload_n hx hb dX12_mend_18 rfl (lv_at hl 2 rfl) ?_
      refine lv_iload_n hx hb dX12_mend_19 rfl (lv_at hl 1 rfl) ?_
      refine lv_iload_n hx hb dX12_mend_20 rfl (lv_at hl 3 rfl) ?_
      refine x_cVi (As := [.int x2, .int x1, .int x3]) (rest := []) hM hG xml_X12_183 xwi_X12_changes xws_X12_changes xmt_0 (by decide) rfl h (fun S' v e => c_X12_changes hM.2.2.2.2.2.2.1 e _) ⟨Nat.le_of_ble_eq_true rfl, Nat.le_of_ble_eq_true rfl⟩ rfl hl.1 rfl (Nat.le_of_ble_eq_true rfl) dX12_mend_21 (fun S_7 v_8 H locs h hG => ?_)
      refine lv_goto (tgt := 28) hx hb dX12_mend_24 (by decide) ?_
      exact x_ri hM hG hr hlk rfl (k0 _ (Option.some.inj h).symm) dX12_mend_28
set_option maxHeartbeats 4000000 in
set_option maxRecDepth 100000 in
theorem c_X12_mend {l : Launch} {D : va_G} {cy : Nat → ClassId} {a z : Nat → Nat} (hI : xI xmb a) {S : xSt} {x1 : Int32} {x2 : Int32} {x3 : Int32} {S' : xSt} {v' : Int32} (hf : f_X12_mend S x1 x2 x3 = some (S', v')) (sz : Nat) : Met l yX12_mend (Cond.code yX12_mend cX12_mend 4 (some .int) :: xTB) ({ frames := 3, cells := 0, slots := 0, locals := 65 } : Room) (va_Pc [.ref (a 0), .int x1, .int x2, .int x3] (xPre D cy xmb a z S sz)) (xQi D cy xmb a S' v' sz) 0 0 (xA xmb a sz) := by
  refine Met.ofW (cc := cX12_mend) (maxL := 4) (ret := (some .int)) (by decide) rfl ?_
  intro p e s m args below meth c s₁ B hml hv
  obtain ⟨rfl, hsz, hP, hK, hE⟩ := hv
  subst hsz
  have hl := lv_entry ([.ref (a 0), .int x1, .int x2, .int x3]) (n := 4) (Nat.le_of_ble_eq_true rfl)
  rw [lg_entry_eq]
  generalize (lg_sl ([.ref (a 0), .int x1, .int x2, .int x3]) ++ List.replicate (4 - (lg_sl ([.ref (a 0), .int x1, .int x2, .int x3])).length) Slot.unset).toArray = ls at hl ⊢
  have hl : lv_has ls 4 [(0, .ref (a 0)), (1, .int x1), (2, .int x2), (3, .int x3)] := hl
  exact w_X12_mend_0 ⟨B.exec, B.bytes, hml, findClass_of_methodNamed B.named, fun w hw => atoms_spec (ws := Cond.code yX12_mend cX12_mend 4 (some .int) :: xTB) B.pre w (List.mem_cons_of_mem _ hw), hK, hI, hE⟩ B.returns B.notSynchronized hf (fun t0 e => e.symm) ⟨hP, va_S.rf⟩ (lv_sub hl [0, 1, 2, 3] rfl)
set_option maxHeartbeats 4000000 in
set_option maxRecDepth 100000 in
theorem w_X12_of_0 {x1 : Int32} {x2 : Int32} (hM : xM p c cX12_of m s args RX12 3 D cy xmb a z) (hr : meth.sig.returnType = (some .int)) (hlk : meth.locks = false) {S' : xSt} {v' : Int32} {S : xSt} {q : (xSt × Int32)} (h : f_X12_of_0 x1 x2 S = some q) (k0 : ∀ t0 : xSt × Int32, q = t0 → t0 = (S', v')) {H : Heap} {locs : List Loc} (hG : xG D cy xmb a S s H locs) {ls : Array Slot} (hl : lv_has ls 3 [(0, .ref (a 0)), (1, .int x1), (2, .int x2)]) : W p l e ({ frames := 3, cells := 0, slots := 0, locals := 65 } : Room) s m args below meth c H locs 0 0 (MQ below (xQi D cy xmb a S' v' s.heap.size) args s 0 0 (xA xmb a s.heap.size)) (F0 m 0 ls []) := by
  have hx := hM.1
  have hb := hM.2.1
  refine lv_iload_n hx hb dX12_of_0 rfl (lv_at hl 2 rfl) ?_
  refine lv_bipush (v := (8 : Int32)) hx hb dX12_of_1 (by decide) ?_
  refine x_icmp_ne (tgt := 24) hM h dX12_of_3 (by decide) (fun c_1 h => ?_) (fun c_1 h => ?_)
  · refine lv_aload_n hx hb dX12_of_24 rfl (lv_at hl 0 rfl) ?_
    refine lv_iload_n hx hb dX12_of_25 rfl (lv_at hl 1 rfl) ?_
    refine lv_iload_n hx hb dX12_of_26 rfl (lv_at hl 2 rfl) ?_
    refine x_cVi (As := [.int x1, .int x2]) (rest := []) hM hG xml_X12_176 xwi_X12_isPlace xws_X12_isPlace xmt_0 (by decide) rfl h (fun S' v e => c_X12_isPlace hM.2.2.2.2.2.2.1 e _) ⟨Nat.le_of_ble_eq_true rfl, Nat.le_of_ble_eq_true rfl⟩ rfl hl.1 rfl (Nat.le_of_ble_eq_true rfl) dX12_of_27 (fun S_2 v_3 H locs h hG => ?_)
    refine x_if_eq (tgt := 42) hM h dX12_of_30 (by decide) (fun c_4 h => ?_) (fun c_4 h => ?_)
    · refine lv_iconst (v := (-1 : Int32)) hx hb dX12_of_42 (by decide) ?_
      exact x_ri hM hG hr hlk rfl (k0 _ (Option.some.inj h).symm) dX12_of_43
    · refine lv_aload_n hx hb dX12_of_33 rfl (lv_at hl 0 rfl) ?_
      refine lv_iload_n hx hb dX12_of_34 rfl (lv_at hl 2 rfl) ?_
      refine lv_iload_n hx hb dX12_of_35 rfl (lv_at hl 1 rfl) ?_
      refine x_cVi (As := [.int x2, .int x1]) (rest := []) hM hG xml_X12_159 xwi_X12_valueAt xws_X12_valueAt xmt_0 (by decide) rfl h (fun S' v e => c_X12_valueAt hM.2.2.2.2.2.2.1 e _) ⟨Nat.le_of_ble_eq_true rfl, Nat.le_of_ble_eq_true rfl⟩ rfl hl.1 rfl (Nat.le_of_ble_eq_true rfl) dX12_of_36 (fun S_5 v_6 H locs h hG => ?_)
      refine lv_goto (tgt := 43) hx hb dX12_of_39 (by decide) ?_
      exact x_ri hM hG hr hlk rfl (k0 _ (Option.some.inj h).symm) dX12_of_43
  · refine lv_iload_n hx hb dX12_of_6 rfl (lv_at hl 1 rfl) ?_
    refine x_cSi (As := [.int x1]) (rest := []) hM hG xml_X12_146 xwt_X12_isColumn h (fun S' v e => c_X12_isColumn hM.2.2.2.2.2.2.1 e _) ⟨Nat.le_of_ble_eq_true rfl, Nat.le_of_ble_eq_true rfl⟩ rfl hl.1 rfl (Nat.le_of_ble_eq_true rfl) dX12_of_7 (fun S_7 v_8 H locs h hG => ?_)
    refine x_if_eq (tgt := 22) hM h dX12_of_10 (by decide) (fun c_9 h => ?_) (fun c_9 h => ?_)
    · refine lv_iconst (v := (-1 : Int32)) hx hb dX12_of_22 (by decide) ?_
      exact x_ri hM hG hr hlk rfl (k0 _ (Option.some.inj h).symm) dX12_of_23
    · refine lv_aload_n hx hb dX12_of_13 rfl (lv_at hl 0 rfl) ?_
      refine x_gr (r := 1) hM hG xfl_X12_9 xmt_0 (by decide) rfl dX12_of_14 ?_
      refine lv_iload_n hx hb dX12_of_17 rfl (lv_at hl 1 rfl) ?_
      refine x_iald hM hG xmt_1 h dX12_of_18 (fun v_10 h => ?_)
      refine lv_goto (tgt := 23) hx hb dX12_of_19 (by decide) ?_
      exact x_ri hM hG hr hlk rfl (k0 _ (Option.some.inj h).symm) dX12_of_23
set_option maxHeartbeats 4000000 in
set_option maxRecDepth 100000 in
theorem c_X12_of {l : Launch} {D : va_G} {cy : Nat → ClassId} {a z : Nat → Nat} (hI : xI xmb a) {S : xSt} {x1 : Int32} {x2 : Int32} {S' : xSt} {v' : Int32} (hf : f_X12_of S x1 x2 = some (S', v')) (sz : Nat) : Met l yX12_of (Cond.code yX12_of cX12_of 3 (some .int) :: xTB) ({ frames := 3, cells := 0, slots := 0, locals := 65 } : Room) (va_Pc [.ref (a 0), .int x1, .int x2] (xPre D cy xmb a z S sz)) (xQi D cy xmb a S' v' sz) 0 0 (xA xmb a sz) := by
  refine Met.ofW (cc := cX12_of) (maxL := 3) (ret := (some .int)) (by decide) rfl ?_
  intro p e s m args below meth c s₁ B hml hv
  obtain ⟨rfl, hsz, hP, hK, hE⟩ := hv
  subst hsz
  have hl := lv_entry ([.ref (a 0), .int x1, .int x2]) (n := 3) (Nat.le_of_ble_eq_true rfl)
  rw [lg_entry_eq]
  generalize (lg_sl ([.ref (a 0), .int x1, .int x2]) ++ List.replicate (3 - (lg_sl ([.ref (a 0), .int x1, .int x2])).length) Slot.unset).toArray = ls at hl ⊢
  have hl : lv_has ls 3 [(0, .ref (a 0)), (1, .int x1), (2, .int x2)] := hl
  exact w_X12_of_0 ⟨B.exec, B.bytes, hml, findClass_of_methodNamed B.named, fun w hw => atoms_spec (ws := Cond.code yX12_of cX12_of 3 (some .int) :: xTB) B.pre w (List.mem_cons_of_mem _ hw), hK, hI, hE⟩ B.returns B.notSynchronized hf (fun t0 e => e.symm) ⟨hP, va_S.rf⟩ (lv_sub hl [0, 1, 2] rfl)
set_option maxHeartbeats 4000000 in
set_option maxRecDepth 100000 in
theorem w_X12_feed_0 {x1 : Int32} (hM : xM p c cX12_feed m s args RX12 2 D cy xmb a z) (hr : meth.sig.returnType = (some .int)) (hlk : meth.locks = false) {S' : xSt} {v' : Int32} {S : xSt} {q : (xSt × Int32)} (h : f_X12_feed_0 x1 S = some q) (k0 : ∀ t0 : xSt × Int32, q = t0 → t0 = (S', v')) {H : Heap} {locs : List Loc} (hG : xG D cy xmb a S s H locs) {ls : Array Slot} (hl : lv_has ls 2 [(0, .ref (a 0)), (1, .int x1)]) : W p l e ({ frames := 1, cells := 0, slots := 0, locals := 22 } : Room) s m args below meth c H locs 0 0 (MQ below (xQi D cy xmb a S' v' s.heap.size) args s 0 0 (xA xmb a s.heap.size)) (F0 m 0 ls []) := by
  have hx := hM.1
  have hb := hM.2.1
  refine lv_iload_n hx hb dX12_feed_0 rfl (lv_at hl 1 rfl) ?_
  refine lv_iconst (v := (0 : Int32)) hx hb dX12_feed_1 (by decide) ?_
  refine lv_sipush (v := (255 : Int32)) hx hb dX12_feed_2 (by decide) ?_
  refine x_cSi (As := [.int x1, .int (0 : Int32), .int (255 : Int32)]) (rest := []) hM hG xml_X12_142 xwt_X12_in h (fun S' v e => c_X12_in hM.2.2.2.2.2.2.1 e _) ⟨Nat.le_of_ble_eq_true rfl, Nat.le_of_ble_eq_true rfl⟩ rfl hl.1 rfl (Nat.le_of_ble_eq_true rfl) dX12_feed_5 (fun S_1 v_2 H locs h hG => ?_)
  refine x_if_ne (tgt := 13) hM h dX12_feed_8 (by decide) (fun c_3 h => ?_) (fun c_3 h => ?_)
  · refine lv_aload_n hx hb dX12_feed_13 rfl (lv_at hl 0 rfl) ?_
    refine x_gi hM hG xfl_X12_186 xmt_0 (by decide) rfl h dX12_feed_14 (fun v_4 h => ?_)
    refine lv_bipush (v := (120 : Int32)) hx hb dX12_feed_17 (by decide) ?_
    refine x_icmp_ne (tgt := 25) hM h dX12_feed_19 (by decide) (fun c_5 h => ?_) (fun c_5 h => ?_)
    · refine lv_aload_n hx hb dX12_feed_25 rfl (lv_at hl 0 rfl) ?_
      refine x_gr (r := 14) hM hG xfl_X12_51 xmt_0 (by decide) rfl dX12_feed_26 ?_
      refine lv_aload_n hx hb dX12_feed_29 rfl (lv_at hl 0 rfl) ?_
      refine x_gi hM hG xfl_X12_186 xmt_0 (by decide) rfl h dX12_feed_30 (fun v_6 h => ?_)
      refine lv_iload_n hx hb dX12_feed_33 rfl (lv_at hl 1 rfl) ?_
      refine x_i2b hM h dX12_feed_34 (fun v_7 h => ?_)
      refine x_bast hM hG xmt_14 h dX12_feed_35 (fun S_8 H locs h hG => ?_)
      refine lv_aload_n hx hb dX12_feed_36 rfl (lv_at hl 0 rfl) ?_
      refine lv_dup hx hb dX12_feed_37 rfl ?_
      refine x_gi hM hG xfl_X12_186 xmt_0 (by decide) rfl h dX12_feed_38 (fun v_9 h => ?_)
      refine lv_iconst (v := (1 : Int32)) hx hb dX12_feed_41 (by decide) ?_
      refine x_iadd hM h dX12_feed_42 (fun v_10 h => ?_)
      refine x_pi hM hG xfl_X12_186 xfp_X12_17 xmt_0 (by decide) rfl rfl rfl h dX12_feed_43 (fun S_11 H locs h hG => ?_)
      refine lv_aload_n hx hb dX12_feed_46 rfl (lv_at hl 0 rfl) ?_
      refine x_gi hM hG xfl_X12_186 xmt_0 (by decide) rfl h dX12_feed_47 (fun v_12 h => ?_)
      exact x_ri hM hG hr hlk rfl (k0 _ (Option.some.inj h).symm) dX12_feed_50
    · refine lv_bipush (v := (-3 : Int32)) hx hb dX12_feed_22 (by decide) ?_
      exact x_ri hM hG hr hlk rfl (k0 _ (Option.some.inj h).symm) dX12_feed_24
  · refine lv_iconst (v := (-1 : Int32)) hx hb dX12_feed_11 (by decide) ?_
    exact x_ri hM hG hr hlk rfl (k0 _ (Option.some.inj h).symm) dX12_feed_12
set_option maxHeartbeats 4000000 in
set_option maxRecDepth 100000 in
theorem c_X12_feed {l : Launch} {D : va_G} {cy : Nat → ClassId} {a z : Nat → Nat} (hI : xI xmb a) {S : xSt} {x1 : Int32} {S' : xSt} {v' : Int32} (hf : f_X12_feed S x1 = some (S', v')) (sz : Nat) : Met l yX12_feed (Cond.code yX12_feed cX12_feed 2 (some .int) :: xTB) ({ frames := 1, cells := 0, slots := 0, locals := 22 } : Room) (va_Pc [.ref (a 0), .int x1] (xPre D cy xmb a z S sz)) (xQi D cy xmb a S' v' sz) 0 0 (xA xmb a sz) := by
  refine Met.ofW (cc := cX12_feed) (maxL := 2) (ret := (some .int)) (by decide) rfl ?_
  intro p e s m args below meth c s₁ B hml hv
  obtain ⟨rfl, hsz, hP, hK, hE⟩ := hv
  subst hsz
  have hl := lv_entry ([.ref (a 0), .int x1]) (n := 2) (Nat.le_of_ble_eq_true rfl)
  rw [lg_entry_eq]
  generalize (lg_sl ([.ref (a 0), .int x1]) ++ List.replicate (2 - (lg_sl ([.ref (a 0), .int x1])).length) Slot.unset).toArray = ls at hl ⊢
  have hl : lv_has ls 2 [(0, .ref (a 0)), (1, .int x1)] := hl
  exact w_X12_feed_0 ⟨B.exec, B.bytes, hml, findClass_of_methodNamed B.named, fun w hw => atoms_spec (ws := Cond.code yX12_feed cX12_feed 2 (some .int) :: xTB) B.pre w (List.mem_cons_of_mem _ hw), hK, hI, hE⟩ B.returns B.notSynchronized hf (fun t0 e => e.symm) ⟨hP, va_S.rf⟩ (lv_sub hl [0, 1] rfl)
set_option maxHeartbeats 4000000 in
set_option maxRecDepth 100000 in
theorem w_X12_look_0 (hM : xM p c cX12_look m s args RX12 1 D cy xmb a z) (hr : meth.sig.returnType = (some .int)) (hlk : meth.locks = false) {S' : xSt} {v' : Int32} {S : xSt} {q : (xSt × Int32)} (h : f_X12_look_0 S = some q) (k0 : ∀ t0 : xSt × Int32, q = t0 → t0 = (S', v')) {H : Heap} {locs : List Loc} (hG : xG D cy xmb a S s H locs) {ls : Array Slot} (hl : lv_has ls 1 [(0, .ref (a 0))]) : W p l e ({ frames := 0, cells := 0, slots := 0, locals := 0 } : Room) s m args below meth c H locs 0 0 (MQ below (xQi D cy xmb a S' v' s.heap.size) args s 0 0 (xA xmb a s.heap.size)) (F0 m 0 ls []) := by
  have hx := hM.1
  have hb := hM.2.1
  refine lv_aload_n hx hb dX12_look_0 rfl (lv_at hl 0 rfl) ?_
  refine x_gi hM hG xfl_X12_189 xmt_0 (by decide) rfl h dX12_look_1 (fun v_1 h => ?_)
  refine lv_aload_n hx hb dX12_look_4 rfl (lv_at hl 0 rfl) ?_
  refine x_gi hM hG xfl_X12_186 xmt_0 (by decide) rfl h dX12_look_5 (fun v_2 h => ?_)
  refine x_icmp_ge (tgt := 23) hM h dX12_look_8 (by decide) (fun c_3 h => ?_) (fun c_3 h => ?_)
  · refine lv_iconst (v := (-1 : Int32)) hx hb dX12_look_23 (by decide) ?_
    exact x_ri hM hG hr hlk rfl (k0 _ (Option.some.inj h).symm) dX12_look_24
  · refine lv_aload_n hx hb dX12_look_11 rfl (lv_at hl 0 rfl) ?_
    refine x_gr (r := 14) hM hG xfl_X12_51 xmt_0 (by decide) rfl dX12_look_12 ?_
    refine lv_aload_n hx hb dX12_look_15 rfl (lv_at hl 0 rfl) ?_
    refine x_gi hM hG xfl_X12_189 xmt_0 (by decide) rfl h dX12_look_16 (fun v_4 h => ?_)
    refine x_bald hM hG xmt_14 h dX12_look_19 (fun v_5 h => ?_)
    refine lv_goto (tgt := 24) hx hb dX12_look_20 (by decide) ?_
    exact x_ri hM hG hr hlk rfl (k0 _ (Option.some.inj h).symm) dX12_look_24
set_option maxHeartbeats 4000000 in
set_option maxRecDepth 100000 in
theorem c_X12_look {l : Launch} {D : va_G} {cy : Nat → ClassId} {a z : Nat → Nat} (hI : xI xmb a) {S : xSt} {S' : xSt} {v' : Int32} (hf : f_X12_look S = some (S', v')) (sz : Nat) : Met l yX12_look (Cond.code yX12_look cX12_look 1 (some .int) :: xTB) ({ frames := 0, cells := 0, slots := 0, locals := 0 } : Room) (va_Pc [.ref (a 0)] (xPre D cy xmb a z S sz)) (xQi D cy xmb a S' v' sz) 0 0 (xA xmb a sz) := by
  refine Met.ofW (cc := cX12_look) (maxL := 1) (ret := (some .int)) (by decide) rfl ?_
  intro p e s m args below meth c s₁ B hml hv
  obtain ⟨rfl, hsz, hP, hK, hE⟩ := hv
  subst hsz
  have hl := lv_entry ([.ref (a 0)]) (n := 1) (Nat.le_of_ble_eq_true rfl)
  rw [lg_entry_eq]
  generalize (lg_sl ([.ref (a 0)]) ++ List.replicate (1 - (lg_sl ([.ref (a 0)])).length) Slot.unset).toArray = ls at hl ⊢
  have hl : lv_has ls 1 [(0, .ref (a 0))] := hl
  exact w_X12_look_0 ⟨B.exec, B.bytes, hml, findClass_of_methodNamed B.named, fun w hw => atoms_spec (ws := Cond.code yX12_look cX12_look 1 (some .int) :: xTB) B.pre w (List.mem_cons_of_mem _ hw), hK, hI, hE⟩ B.returns B.notSynchronized hf (fun t0 e => e.symm) ⟨hP, va_S.rf⟩ (lv_sub hl [0] rfl)
set_option maxHeartbeats 4000000 in
set_option maxRecDepth 100000 in
theorem w_X12_wrong_0 (hM : xM p c cX12_wrong m s args RX12 1 D cy xmb a z) (hr : meth.sig.returnType = none) (hlk : meth.locks = false) {S' : xSt} {v' : Unit} {S : xSt} {q : (xSt × Unit)} (h : f_X12_wrong_0 S = some q) (k0 : ∀ t0 : xSt × Unit, q = t0 → t0 = (S', v')) {H : Heap} {locs : List Loc} (hG : xG D cy xmb a S s H locs) {ls : Array Slot} (hl : lv_has ls 1 [(0, .ref (a 0))]) : W p l e ({ frames := 0, cells := 0, slots := 0, locals := 0 } : Room) s m args below meth c H locs 0 0 (MQ below (xQv D cy xmb a S' v' s.heap.size) args s 0 0 (xA xmb a s.heap.size)) (F0 m 0 ls []) := by
  have hx := hM.1
  have hb := hM.2.1
  refine lv_aload_n hx hb dX12_wrong_0 rfl (lv_at hl 0 rfl) ?_
  refine x_gi hM hG xfl_X12_192 xmt_0 (by decide) rfl h dX12_wrong_1 (fun v_1 h => ?_)
  refine x_if_ge (tgt := 15) hM h dX12_wrong_4 (by decide) (fun c_2 h => ?_) (fun c_2 h => ?_)
  · exact x_rv hM hG hr hlk (k0 _ (Option.some.inj h).symm) dX12_wrong_15
  · refine lv_aload_n hx hb dX12_wrong_7 rfl (lv_at hl 0 rfl) ?_
    refine lv_aload_n hx hb dX12_wrong_8 rfl (lv_at hl 0 rfl) ?_
    refine x_gi hM hG xfl_X12_189 xmt_0 (by decide) rfl h dX12_wrong_9 (fun v_3 h => ?_)
    refine x_pi hM hG xfl_X12_192 xfp_X12_19 xmt_0 (by decide) rfl rfl rfl h dX12_wrong_12 (fun S_4 H locs h hG => ?_)
    exact x_rv hM hG hr hlk (k0 _ (Option.some.inj h).symm) dX12_wrong_15
set_option maxHeartbeats 4000000 in
set_option maxRecDepth 100000 in
theorem c_X12_wrong {l : Launch} {D : va_G} {cy : Nat → ClassId} {a z : Nat → Nat} (hI : xI xmb a) {S : xSt} {S' : xSt} {v' : Unit} (hf : f_X12_wrong S = some (S', v')) (sz : Nat) : Met l yX12_wrong (Cond.code yX12_wrong cX12_wrong 1 none :: xTB) ({ frames := 0, cells := 0, slots := 0, locals := 0 } : Room) (va_Pc [.ref (a 0)] (xPre D cy xmb a z S sz)) (xQv D cy xmb a S' v' sz) 0 0 (xA xmb a sz) := by
  refine Met.ofW (cc := cX12_wrong) (maxL := 1) (ret := none) (by decide) rfl ?_
  intro p e s m args below meth c s₁ B hml hv
  obtain ⟨rfl, hsz, hP, hK, hE⟩ := hv
  subst hsz
  have hl := lv_entry ([.ref (a 0)]) (n := 1) (Nat.le_of_ble_eq_true rfl)
  rw [lg_entry_eq]
  generalize (lg_sl ([.ref (a 0)]) ++ List.replicate (1 - (lg_sl ([.ref (a 0)])).length) Slot.unset).toArray = ls at hl ⊢
  have hl : lv_has ls 1 [(0, .ref (a 0))] := hl
  exact w_X12_wrong_0 ⟨B.exec, B.bytes, hml, findClass_of_methodNamed B.named, fun w hw => atoms_spec (ws := Cond.code yX12_wrong cX12_wrong 1 none :: xTB) B.pre w (List.mem_cons_of_mem _ hw), hK, hI, hE⟩ B.returns B.notSynchronized hf (fun t0 e => e.symm) ⟨hP, va_S.rf⟩ (lv_sub hl [0] rfl)
set_option maxHeartbeats 4000000 in
set_option maxRecDepth 100000 in
theorem w_X12_addStep_0 {x1 : Int32} {x2 : Int32} (hM : xM p c cX12_addStep m s args RX12 3 D cy xmb a z) (hr : meth.sig.returnType = none) (hlk : meth.locks = false) {S' : xSt} {v' : Unit} {S : xSt} {q : (xSt × Unit)} (h : f_X12_addStep_0 x1 x2 S = some q) (k0 : ∀ t0 : xSt × Unit, q = t0 → t0 = (S', v')) {H : Heap} {locs : List Loc} (hG : xG D cy xmb a S s H locs) {ls : Array Slot} (hl : lv_has ls 3 [(0, .ref (a 0)), (1, .int x1), (2, .int x2)]) : W p l e ({ frames := 0, cells := 0, slots := 0, locals := 0 } : Room) s m args below meth c H locs 0 0 (MQ below (xQv D cy xmb a S' v' s.heap.size) args s 0 0 (xA xmb a s.heap.size)) (F0 m 0 ls []) := by
  have hx := hM.1
  have hb := hM.2.1
  refine lv_aload_n hx hb dX12_addStep_0 rfl (lv_at hl 0 rfl) ?_
  refine x_gr (r := 15) hM hG xfl_X12_55 xmt_0 (by decide) rfl dX12_addStep_1 ?_
  refine lv_sipush (v := (130 : Int32)) hx hb dX12_addStep_4 (by decide) ?_
  refine lv_aload_n hx hb dX12_addStep_7 rfl (lv_at hl 0 rfl) ?_
  refine x_gi hM hG xfl_X12_195 xmt_0 (by decide) rfl h dX12_addStep_8 (fun v_1 h => ?_)
  refine x_iadd hM h dX12_addStep_11 (fun v_2 h => ?_)
  refine lv_iload_n hx hb dX12_addStep_12 rfl (lv_at hl 1 rfl) ?_
  refine x_i2b hM h dX12_addStep_13 (fun v_3 h => ?_)
  refine x_bast hM hG xmt_15 h dX12_addStep_14 (fun S_4 H locs h hG => ?_)
  refine lv_aload_n hx hb dX12_addStep_15 rfl (lv_at hl 0 rfl) ?_
  refine x_gr (r := 16) hM hG xfl_X12_58 xmt_0 (by decide) rfl dX12_addStep_16 ?_
  refine lv_sipush (v := (130 : Int32)) hx hb dX12_addStep_19 (by decide) ?_
  refine lv_aload_n hx hb dX12_addStep_22 rfl (lv_at hl 0 rfl) ?_
  refine x_gi hM hG xfl_X12_195 xmt_0 (by decide) rfl h dX12_addStep_23 (fun v_5 h => ?_)
  refine x_iadd hM h dX12_addStep_26 (fun v_6 h => ?_)
  refine lv_iload_n hx hb dX12_addStep_27 rfl (lv_at hl 2 rfl) ?_
  refine x_iast hM hG xmt_16 h dX12_addStep_28 (fun S_7 H locs h hG => ?_)
  refine lv_aload_n hx hb dX12_addStep_29 rfl (lv_at hl 0 rfl) ?_
  refine lv_dup hx hb dX12_addStep_30 rfl ?_
  refine x_gi hM hG xfl_X12_195 xmt_0 (by decide) rfl h dX12_addStep_31 (fun v_8 h => ?_)
  refine lv_iconst (v := (1 : Int32)) hx hb dX12_addStep_34 (by decide) ?_
  refine x_iadd hM h dX12_addStep_35 (fun v_9 h => ?_)
  refine x_pi hM hG xfl_X12_195 xfp_X12_21 xmt_0 (by decide) rfl rfl rfl h dX12_addStep_36 (fun S_10 H locs h hG => ?_)
  exact x_rv hM hG hr hlk (k0 _ (Option.some.inj h).symm) dX12_addStep_39
set_option maxHeartbeats 4000000 in
set_option maxRecDepth 100000 in
theorem c_X12_addStep {l : Launch} {D : va_G} {cy : Nat → ClassId} {a z : Nat → Nat} (hI : xI xmb a) {S : xSt} {x1 : Int32} {x2 : Int32} {S' : xSt} {v' : Unit} (hf : f_X12_addStep S x1 x2 = some (S', v')) (sz : Nat) : Met l yX12_addStep (Cond.code yX12_addStep cX12_addStep 3 none :: xTB) ({ frames := 0, cells := 0, slots := 0, locals := 0 } : Room) (va_Pc [.ref (a 0), .int x1, .int x2] (xPre D cy xmb a z S sz)) (xQv D cy xmb a S' v' sz) 0 0 (xA xmb a sz) := by
  refine Met.ofW (cc := cX12_addStep) (maxL := 3) (ret := none) (by decide) rfl ?_
  intro p e s m args below meth c s₁ B hml hv
  obtain ⟨rfl, hsz, hP, hK, hE⟩ := hv
  subst hsz
  have hl := lv_entry ([.ref (a 0), .int x1, .int x2]) (n := 3) (Nat.le_of_ble_eq_true rfl)
  rw [lg_entry_eq]
  generalize (lg_sl ([.ref (a 0), .int x1, .int x2]) ++ List.replicate (3 - (lg_sl ([.ref (a 0), .int x1, .int x2])).length) Slot.unset).toArray = ls at hl ⊢
  have hl : lv_has ls 3 [(0, .ref (a 0)), (1, .int x1), (2, .int x2)] := hl
  exact w_X12_addStep_0 ⟨B.exec, B.bytes, hml, findClass_of_methodNamed B.named, fun w hw => atoms_spec (ws := Cond.code yX12_addStep cX12_addStep 3 none :: xTB) B.pre w (List.mem_cons_of_mem _ hw), hK, hI, hE⟩ B.returns B.notSynchronized hf (fun t0 e => e.symm) ⟨hP, va_S.rf⟩ (lv_sub hl [0, 1, 2] rfl)
set_option maxHeartbeats 4000000 in
set_option maxRecDepth 100000 in
theorem w_X12_nameOf_0 {x0 : Int32} (hM : xM p c cX12_nameOf m s args RX12 1 D cy xmb a z) (hr : meth.sig.returnType = (some .int)) (hlk : meth.locks = false) {S' : xSt} {v' : Int32} {S : xSt} {q : (xSt × Int32)} (h : f_X12_nameOf_0 x0 S = some q) (k0 : ∀ t0 : xSt × Int32, q = t0 → t0 = (S', v')) {H : Heap} {locs : List Loc} (hG : xG D cy xmb a S s H locs) {ls : Array Slot} (hl : lv_has ls 1 [(0, .int x0)]) : W p l e ({ frames := 0, cells := 0, slots := 0, locals := 0 } : Room) s m args below meth c H locs 0 0 (MQ below (xQi D cy xmb a S' v' s.heap.size) args s 0 0 (xA xmb a s.heap.size)) (F0 m 0 ls []) := by
  have hx := hM.1
  have hb := hM.2.1
  refine lv_iload_n hx hb dX12_nameOf_0 rfl (lv_at hl 0 rfl) ?_
  by_cases c_1 : x0 = (97 : Int32)
  · have h := (if_pos c_1).symm.trans h
    refine lv_tableIn (off := 95) (tgt := 96) hx hb dX12_nameOf_1 (by rw [c_1]; decide) (by rw [c_1]; decide) (by rw [c_1]; rfl) (by decide) ?_
    refine lv_iconst (v := (2 : Int32)) hx hb dX12_nameOf_96 (by decide) ?_
    exact x_ri hM hG hr hlk rfl (k0 _ (Option.some.inj h).symm) dX12_nameOf_97
  · have h := (if_neg c_1).symm.trans h
    by_cases c_2 : x0 = (98 : Int32)
    · have h := (if_pos c_2).symm.trans h
      refine lv_tableIn (off := 103) (tgt := 104) hx hb dX12_nameOf_1 (by rw [c_2]; decide) (by rw [c_2]; decide) (by rw [c_2]; rfl) (by decide) ?_
      refine lv_iconst (v := (-1 : Int32)) hx hb dX12_nameOf_104 (by decide) ?_
      exact x_ri hM hG hr hlk rfl (k0 _ (Option.some.inj h).symm) dX12_nameOf_105
    · have h := (if_neg c_2).symm.trans h
      by_cases c_3 : x0 = (99 : Int32)
      · have h := (if_pos c_3).symm.trans h
        refine lv_tableIn (off := 103) (tgt := 104) hx hb dX12_nameOf_1 (by rw [c_3]; decide) (by rw [c_3]; decide) (by rw [c_3]; rfl) (by decide) ?_
        refine lv_iconst (v := (-1 : Int32)) hx hb dX12_nameOf_104 (by decide) ?_
        exact x_ri hM hG hr hlk rfl (k0 _ (Option.some.inj h).symm) dX12_nameOf_105
      · have h := (if_neg c_3).symm.trans h
        by_cases c_4 : x0 = (100 : Int32)
        · have h := (if_pos c_4).symm.trans h
          refine lv_tableIn (off := 91) (tgt := 92) hx hb dX12_nameOf_1 (by rw [c_4]; decide) (by rw [c_4]; decide) (by rw [c_4]; rfl) (by decide) ?_
          refine lv_iconst (v := (0 : Int32)) hx hb dX12_nameOf_92 (by decide) ?_
          exact x_ri hM hG hr hlk rfl (k0 _ (Option.some.inj h).symm) dX12_nameOf_93
        · have h := (if_neg c_4).symm.trans h
          by_cases c_5 : x0 = (101 : Int32)
          · have h := (if_pos c_5).symm.trans h
            refine lv_tableIn (off := 103) (tgt := 104) hx hb dX12_nameOf_1 (by rw [c_5]; decide) (by rw [c_5]; decide) (by rw [c_5]; rfl) (by decide) ?_
            refine lv_iconst (v := (-1 : Int32)) hx hb dX12_nameOf_104 (by decide) ?_
            exact x_ri hM hG hr hlk rfl (k0 _ (Option.some.inj h).symm) dX12_nameOf_105
          · have h := (if_neg c_5).symm.trans h
            by_cases c_6 : x0 = (102 : Int32)
            · have h := (if_pos c_6).symm.trans h
              refine lv_tableIn (off := 103) (tgt := 104) hx hb dX12_nameOf_1 (by rw [c_6]; decide) (by rw [c_6]; decide) (by rw [c_6]; rfl) (by decide) ?_
              refine lv_iconst (v := (-1 : Int32)) hx hb dX12_nameOf_104 (by decide) ?_
              exact x_ri hM hG hr hlk rfl (k0 _ (Option.some.inj h).symm) dX12_nameOf_105
            · have h := (if_neg c_6).symm.trans h
              by_cases c_7 : x0 = (103 : Int32)
              · have h := (if_pos c_7).symm.trans h
                refine lv_tableIn (off := 103) (tgt := 104) hx hb dX12_nameOf_1 (by rw [c_7]; decide) (by rw [c_7]; decide) (by rw [c_7]; rfl) (by decide) ?_
                refine lv_iconst (v := (-1 : Int32)) hx hb dX12_nameOf_104 (by decide) ?_
                exact x_ri hM hG hr hlk rfl (k0 _ (Option.some.inj h).symm) dX12_nameOf_105
              · have h := (if_neg c_7).symm.trans h
                by_cases c_8 : x0 = (104 : Int32)
                · have h := (if_pos c_8).symm.trans h
                  refine lv_tableIn (off := 93) (tgt := 94) hx hb dX12_nameOf_1 (by rw [c_8]; decide) (by rw [c_8]; decide) (by rw [c_8]; rfl) (by decide) ?_
                  refine lv_iconst (v := (1 : Int32)) hx hb dX12_nameOf_94 (by decide) ?_
                  exact x_ri hM hG hr hlk rfl (k0 _ (Option.some.inj h).symm) dX12_nameOf_95
                · have h := (if_neg c_8).symm.trans h
                  by_cases c_9 : x0 = (105 : Int32)
                  · have h := (if_pos c_9).symm.trans h
                    refine lv_tableIn (off := 103) (tgt := 104) hx hb dX12_nameOf_1 (by rw [c_9]; decide) (by rw [c_9]; decide) (by rw [c_9]; rfl) (by decide) ?_
                    refine lv_iconst (v := (-1 : Int32)) hx hb dX12_nameOf_104 (by decide) ?_
                    exact x_ri hM hG hr hlk rfl (k0 _ (Option.some.inj h).symm) dX12_nameOf_105
                  · have h := (if_neg c_9).symm.trans h
                    by_cases c_10 : x0 = (106 : Int32)
                    · have h := (if_pos c_10).symm.trans h
                      refine lv_tableIn (off := 103) (tgt := 104) hx hb dX12_nameOf_1 (by rw [c_10]; decide) (by rw [c_10]; decide) (by rw [c_10]; rfl) (by decide) ?_
                      refine lv_iconst (v := (-1 : Int32)) hx hb dX12_nameOf_104 (by decide) ?_
                      exact x_ri hM hG hr hlk rfl (k0 _ (Option.some.inj h).symm) dX12_nameOf_105
                    · have h := (if_neg c_10).symm.trans h
                      by_cases c_11 : x0 = (107 : Int32)
                      · have h := (if_pos c_11).symm.trans h
                        refine lv_tableIn (off := 103) (tgt := 104) hx hb dX12_nameOf_1 (by rw [c_11]; decide) (by rw [c_11]; decide) (by rw [c_11]; rfl) (by decide) ?_
                        refine lv_iconst (v := (-1 : Int32)) hx hb dX12_nameOf_104 (by decide) ?_
                        exact x_ri hM hG hr hlk rfl (k0 _ (Option.some.inj h).symm) dX12_nameOf_105
                      · have h := (if_neg c_11).symm.trans h
                        by_cases c_12 : x0 = (108 : Int32)
                        · have h := (if_pos c_12).symm.trans h
                          refine lv_tableIn (off := 101) (tgt := 102) hx hb dX12_nameOf_1 (by rw [c_12]; decide) (by rw [c_12]; decide) (by rw [c_12]; rfl) (by decide) ?_
                          refine lv_iconst (v := (5 : Int32)) hx hb dX12_nameOf_102 (by decide) ?_
                          exact x_ri hM hG hr hlk rfl (k0 _ (Option.some.inj h).symm) dX12_nameOf_103
                        · have h := (if_neg c_12).symm.trans h
                          by_cases c_13 : x0 = (109 : Int32)
                          · have h := (if_pos c_13).symm.trans h
                            refine lv_tableIn (off := 103) (tgt := 104) hx hb dX12_nameOf_1 (by rw [c_13]; decide) (by rw [c_13]; decide) (by rw [c_13]; rfl) (by decide) ?_
                            refine lv_iconst (v := (-1 : Int32)) hx hb dX12_nameOf_104 (by decide) ?_
                            exact x_ri hM hG hr hlk rfl (k0 _ (Option.some.inj h).symm) dX12_nameOf_105
                          · have h := (if_neg c_13).symm.trans h
                            by_cases c_14 : x0 = (110 : Int32)
                            · have h := (if_pos c_14).symm.trans h
                              refine lv_tableIn (off := 99) (tgt := 100) hx hb dX12_nameOf_1 (by rw [c_14]; decide) (by rw [c_14]; decide) (by rw [c_14]; rfl) (by decide) ?_
                              refine lv_iconst (v := (4 : Int32)) hx hb dX12_nameOf_100 (by decide) ?_
                              exact x_ri hM hG hr hlk rfl (k0 _ (Option.some.inj h).symm) dX12_nameOf_101
                            · have h := (if_neg c_14).symm.trans h
                              by_cases c_15 : x0 = (111 : Int32)
                              · have h := (if_pos c_15).symm.trans h
                                refine lv_tableIn (off := 103) (tgt := 104) hx hb dX12_nameOf_1 (by rw [c_15]; decide) (by rw [c_15]; decide) (by rw [c_15]; rfl) (by decide) ?_
                                refine lv_iconst (v := (-1 : Int32)) hx hb dX12_nameOf_104 (by decide) ?_
                                exact x_ri hM hG hr hlk rfl (k0 _ (Option.some.inj h).symm) dX12_nameOf_105
                              · have h := (if_neg c_15).symm.trans h
                                by_cases c_16 : x0 = (112 : Int32)
                                · have h := (if_pos c_16).symm.trans h
                                  refine lv_tableIn (off := 103) (tgt := 104) hx hb dX12_nameOf_1 (by rw [c_16]; decide) (by rw [c_16]; decide) (by rw [c_16]; rfl) (by decide) ?_
                                  refine lv_iconst (v := (-1 : Int32)) hx hb dX12_nameOf_104 (by decide) ?_
                                  exact x_ri hM hG hr hlk rfl (k0 _ (Option.some.inj h).symm) dX12_nameOf_105
                                · have h := (if_neg c_16).symm.trans h
                                  by_cases c_17 : x0 = (113 : Int32)
                                  · have h := (if_pos c_17).symm.trans h
                                    refine lv_tableIn (off := 103) (tgt := 104) hx hb dX12_nameOf_1 (by rw [c_17]; decide) (by rw [c_17]; decide) (by rw [c_17]; rfl) (by decide) ?_
                                    refine lv_iconst (v := (-1 : Int32)) hx hb dX12_nameOf_104 (by decide) ?_
                                    exact x_ri hM hG hr hlk rfl (k0 _ (Option.some.inj h).symm) dX12_nameOf_105
                                  · have h := (if_neg c_17).symm.trans h
                                    by_cases c_18 : x0 = (114 : Int32)
                                    · have h := (if_pos c_18).symm.trans h
                                      refine lv_tableIn (off := 103) (tgt := 104) hx hb dX12_nameOf_1 (by rw [c_18]; decide) (by rw [c_18]; decide) (by rw [c_18]; rfl) (by decide) ?_
                                      refine lv_iconst (v := (-1 : Int32)) hx hb dX12_nameOf_104 (by decide) ?_
                                      exact x_ri hM hG hr hlk rfl (k0 _ (Option.some.inj h).symm) dX12_nameOf_105
                                    · have h := (if_neg c_18).symm.trans h
                                      by_cases c_19 : x0 = (115 : Int32)
                                      · have h := (if_pos c_19).symm.trans h
                                        refine lv_tableIn (off := 97) (tgt := 98) hx hb dX12_nameOf_1 (by rw [c_19]; decide) (by rw [c_19]; decide) (by rw [c_19]; rfl) (by decide) ?_
                                        refine lv_iconst (v := (3 : Int32)) hx hb dX12_nameOf_98 (by decide) ?_
                                        exact x_ri hM hG hr hlk rfl (k0 _ (Option.some.inj h).symm) dX12_nameOf_99
                                      · have h := (if_neg c_19).symm.trans h
                                        refine lv_tableOut (tgt := 104) hx hb dX12_nameOf_1 (x_tout [(97 : Int32), (98 : Int32), (99 : Int32), (100 : Int32), (101 : Int32), (102 : Int32), (103 : Int32), (104 : Int32), (105 : Int32), (106 : Int32), (107 : Int32), (108 : Int32), (109 : Int32), (110 : Int32), (111 : Int32), (112 : Int32), (113 : Int32), (114 : Int32), (115 : Int32)] 97 (by decide) (by decide) (List.forall_mem_cons.mpr ⟨c_1, (List.forall_mem_cons.mpr ⟨c_2, (List.forall_mem_cons.mpr ⟨c_3, (List.forall_mem_cons.mpr ⟨c_4, (List.forall_mem_cons.mpr ⟨c_5, (List.forall_mem_cons.mpr ⟨c_6, (List.forall_mem_cons.mpr ⟨c_7, (List.forall_mem_cons.mpr ⟨c_8, (List.forall_mem_cons.mpr ⟨c_9, (List.forall_mem_cons.mpr ⟨c_10, (List.forall_mem_cons.mpr ⟨c_11, (List.forall_mem_cons.mpr ⟨c_12, (List.forall_mem_cons.mpr ⟨c_13, (List.forall_mem_cons.mpr ⟨c_14, (List.forall_mem_cons.mpr ⟨c_15, (List.forall_mem_cons.mpr ⟨c_16, (List.forall_mem_cons.mpr ⟨c_17, (List.forall_mem_cons.mpr ⟨c_18, (List.forall_mem_cons.mpr ⟨c_19, (fun _ h => absurd h List.not_mem_nil)⟩)⟩)⟩)⟩)⟩)⟩)⟩)⟩)⟩)⟩)⟩)⟩)⟩)⟩)⟩)⟩)⟩)⟩)⟩)) (by decide) ?_
                                        refine lv_iconst (v := (-1 : Int32)) hx hb dX12_nameOf_104 (by decide) ?_
                                        exact x_ri hM hG hr hlk rfl (k0 _ (Option.some.inj h).symm) dX12_nameOf_105
set_option maxHeartbeats 4000000 in
set_option maxRecDepth 100000 in
theorem c_X12_nameOf {l : Launch} {D : va_G} {cy : Nat → ClassId} {a z : Nat → Nat} (hI : xI xmb a) {S : xSt} {x0 : Int32} {S' : xSt} {v' : Int32} (hf : f_X12_nameOf S x0 = some (S', v')) (sz : Nat) : Met l yX12_nameOf (Cond.code yX12_nameOf cX12_nameOf 1 (some .int) :: xTB) ({ frames := 0, cells := 0, slots := 0, locals := 0 } : Room) (va_Pc [.int x0] (xPre D cy xmb a z S sz)) (xQi D cy xmb a S' v' sz) 0 0 (xA xmb a sz) := by
  refine Met.ofW (cc := cX12_nameOf) (maxL := 1) (ret := (some .int)) (by decide) rfl ?_
  intro p e s m args below meth c s₁ B hml hv
  obtain ⟨rfl, hsz, hP, hK, hE⟩ := hv
  subst hsz
  have hl := lv_entry ([.int x0]) (n := 1) (Nat.le_of_ble_eq_true rfl)
  rw [lg_entry_eq]
  generalize (lg_sl ([.int x0]) ++ List.replicate (1 - (lg_sl ([.int x0])).length) Slot.unset).toArray = ls at hl ⊢
  have hl : lv_has ls 1 [(0, .int x0)] := hl
  exact w_X12_nameOf_0 ⟨B.exec, B.bytes, hml, findClass_of_methodNamed B.named, fun w hw => atoms_spec (ws := Cond.code yX12_nameOf cX12_nameOf 1 (some .int) :: xTB) B.pre w (List.mem_cons_of_mem _ hw), hK, hI, hE⟩ B.returns B.notSynchronized hf (fun t0 e => e.symm) ⟨hP, va_S.rf⟩ (lv_sub hl [0] rfl)
set_option maxHeartbeats 4000000 in
set_option maxRecDepth 100000 in
theorem w_X12_opens_0 (hM : xM p c cX12_opens m s args RX12 1 D cy xmb a z) (hr : meth.sig.returnType = (some .boolean)) (hlk : meth.locks = false) {S' : xSt} {v' : Int32} {S : xSt} {q : (xSt × Int32)} (h : f_X12_opens_0 S = some q) (k0 : ∀ t0 : xSt × Int32, q = t0 → t0 = (S', v')) {H : Heap} {locs : List Loc} (hG : xG D cy xmb a S s H locs) {ls : Array Slot} (hl : lv_has ls 1 [(0, .ref (a 0))]) : W p l e ({ frames := 1, cells := 0, slots := 0, locals := 20 } : Room) s m args below meth c H locs 0 0 (MQ below (xQi D cy xmb a S' v' s.heap.size) args s 0 0 (xA xmb a s.heap.size)) (F0 m 0 ls []) := by
  have hx := hM.1
  have hb := hM.2.1
  refine lv_aload_n hx hb dX12_opens_0 rfl (lv_at hl 0 rfl) ?_
  refine x_gi hM hG xfl_X12_198 xmt_0 (by decide) rfl h dX12_opens_1 (fun v_1 h => ?_)
  refine lv_bipush (v := (6 : Int32)) hx hb dX12_opens_4 (by decide) ?_
  refine x_icmp_ne (tgt := 15) hM h dX12_opens_6 (by decide) (fun c_2 h => ?_) (fun c_2 h => ?_)
  · refine lv_aload_n hx hb dX12_opens_15 rfl (lv_at hl 0 rfl) ?_
    refine lv_dup hx hb dX12_opens_16 rfl ?_
    refine x_gi hM hG xfl_X12_198 xmt_0 (by decide) rfl h dX12_opens_17 (fun v_3 h => ?_)
    refine lv_iconst (v := (1 : Int32)) hx hb dX12_opens_20 (by decide) ?_
    refine x_iadd hM h dX12_opens_21 (fun v_4 h => ?_)
    refine x_pi hM hG xfl_X12_198 xfp_X12_20 xmt_0 (by decide) rfl rfl rfl h dX12_opens_22 (fun S_5 H locs h hG => ?_)
    refine lv_aload_n hx hb dX12_opens_25 rfl (lv_at hl 0 rfl) ?_
    refine lv_dup hx hb dX12_opens_26 rfl ?_
    refine x_gi hM hG xfl_X12_189 xmt_0 (by decide) rfl h dX12_opens_27 (fun v_6 h => ?_)
    refine lv_iconst (v := (1 : Int32)) hx hb dX12_opens_30 (by decide) ?_
    refine x_iadd hM h dX12_opens_31 (fun v_7 h => ?_)
    refine x_pi hM hG xfl_X12_189 xfp_X12_18 xmt_0 (by decide) rfl rfl rfl h dX12_opens_32 (fun S_8 H locs h hG => ?_)
    refine lv_iconst (v := (1 : Int32)) hx hb dX12_opens_35 (by decide) ?_
    obtain ⟨hz, h⟩ := xgd_at h
    exact x_ri hM hG hr hlk (x_nz hz) (k0 _ (Option.some.inj h).symm) dX12_opens_36
  · refine lv_aload_n hx hb dX12_opens_9 rfl (lv_at hl 0 rfl) ?_
    refine x_cVv (As := []) (rest := []) hM hG xml_X12_201 xwi_X12_wrong xws_X12_wrong xmt_0 (by decide) rfl h (fun S' v e => c_X12_wrong hM.2.2.2.2.2.2.1 e _) ⟨Nat.le_of_ble_eq_true rfl, Nat.le_of_ble_eq_true rfl⟩ rfl hl.1 rfl (Nat.le_of_ble_eq_true rfl) dX12_opens_10 (fun S_9 v_10 H locs h hG => ?_)
    refine lv_iconst (v := (0 : Int32)) hx hb dX12_opens_13 (by decide) ?_
    obtain ⟨hz, h⟩ := xgd_at h
    exact x_ri hM hG hr hlk (x_nz hz) (k0 _ (Option.some.inj h).symm) dX12_opens_14
set_option maxHeartbeats 4000000 in
set_option maxRecDepth 100000 in
theorem c_X12_opens {l : Launch} {D : va_G} {cy : Nat → ClassId} {a z : Nat → Nat} (hI : xI xmb a) {S : xSt} {S' : xSt} {v' : Int32} (hf : f_X12_opens S = some (S', v')) (sz : Nat) : Met l yX12_opens (Cond.code yX12_opens cX12_opens 1 (some .boolean) :: xTB) ({ frames := 1, cells := 0, slots := 0, locals := 20 } : Room) (va_Pc [.ref (a 0)] (xPre D cy xmb a z S sz)) (xQi D cy xmb a S' v' sz) 0 0 (xA xmb a sz) := by
  refine Met.ofW (cc := cX12_opens) (maxL := 1) (ret := (some .boolean)) (by decide) rfl ?_
  intro p e s m args below meth c s₁ B hml hv
  obtain ⟨rfl, hsz, hP, hK, hE⟩ := hv
  subst hsz
  have hl := lv_entry ([.ref (a 0)]) (n := 1) (Nat.le_of_ble_eq_true rfl)
  rw [lg_entry_eq]
  generalize (lg_sl ([.ref (a 0)]) ++ List.replicate (1 - (lg_sl ([.ref (a 0)])).length) Slot.unset).toArray = ls at hl ⊢
  have hl : lv_has ls 1 [(0, .ref (a 0))] := hl
  exact w_X12_opens_0 ⟨B.exec, B.bytes, hml, findClass_of_methodNamed B.named, fun w hw => atoms_spec (ws := Cond.code yX12_opens cX12_opens 1 (some .boolean) :: xTB) B.pre w (List.mem_cons_of_mem _ hw), hK, hI, hE⟩ B.returns B.notSynchronized hf (fun t0 e => e.symm) ⟨hP, va_S.rf⟩ (lv_sub hl [0] rfl)
set_option maxHeartbeats 4000000 in
set_option maxRecDepth 100000 in
theorem w_X12_figure_74 {x1 : Int32} (hM : xM p c cX12_figure m s args RX12 3 D cy xmb a z) (hr : meth.sig.returnType = none) (hlk : meth.locks = false) {S' : xSt} {v' : Unit} {S : xSt} {q : (xSt × Unit)} (h : f_X12_figure_74 x1 S = some q) (k0 : ∀ t0 : xSt × Unit, q = t0 → t0 = (S', v')) {H : Heap} {locs : List Loc} (hG : xG D cy xmb a S s H locs) {ls : Array Slot} (hl : lv_has ls 3 [(0, .ref (a 0)), (1, .int x1)]) : W p l e ({ frames := 1, cells := 0, slots := 0, locals := 22 } : Room) s m args below meth c H locs 0 0 (MQ below (xQv D cy xmb a S' v' s.heap.size) args s 0 0 (xA xmb a s.heap.size)) (F0 m 74 ls []) := by
  have hx := hM.1
  have hb := hM.2.1
  refine lv_aload_n hx hb dX12_figure_74 rfl (lv_at hl 0 rfl) ?_
  refine lv_iconst (v := (1 : Int32)) hx hb dX12_figure_75 (by decide) ?_
  refine lv_iload_n hx hb dX12_figure_76 rfl (lv_at hl 1 rfl) ?_
  refine x_cVv (As := [.int (1 : Int32), .int x1]) (rest := []) hM hG xml_X12_208 xwi_X12_addStep xws_X12_addStep xmt_0 (by decide) rfl h (fun S' v e => c_X12_addStep hM.2.2.2.2.2.2.1 e _) ⟨Nat.le_of_ble_eq_true rfl, Nat.le_of_ble_eq_true rfl⟩ rfl hl.1 rfl (Nat.le_of_ble_eq_true rfl) dX12_figure_77 (fun S_1 v_2 H locs h hG => ?_)
  exact x_rv hM hG hr hlk (k0 _ (Option.some.inj h).symm) dX12_figure_80
set_option maxHeartbeats 4000000 in
set_option maxRecDepth 100000 in
theorem w_X12_figure_70 {x1 : Int32} (hM : xM p c cX12_figure m s args RX12 3 D cy xmb a z) (hr : meth.sig.returnType = none) (hlk : meth.locks = false) {S' : xSt} {v' : Unit} {S : xSt} {q : (xSt × Unit)} (h : f_X12_figure_70 x1 S = some q) (k0 : ∀ t0 : xSt × Unit, q = t0 → t0 = (S', v')) {H : Heap} {locs : List Loc} (hG : xG D cy xmb a S s H locs) {ls : Array Slot} (hl : lv_has ls 3 [(0, .ref (a 0)), (1, .int x1)]) : W p l e ({ frames := 1, cells := 0, slots := 0, locals := 22 } : Room) s m args below meth c H locs 0 0 (MQ below (xQv D cy xmb a S' v' s.heap.size) args s 0 0 (xA xmb a s.heap.size)) (F0 m 70 ls []) := by
  have hx := hM.1
  have hb := hM.2.1
  refine lv_aload_n hx hb dX12_figure_70 rfl (lv_at hl 0 rfl) ?_
  refine x_cVv (As := []) (rest := []) hM hG xml_X12_201 xwi_X12_wrong xws_X12_wrong xmt_0 (by decide) rfl h (fun S' v e => c_X12_wrong hM.2.2.2.2.2.2.1 e _) ⟨Nat.le_of_ble_eq_true rfl, Nat.le_of_ble_eq_true rfl⟩ rfl hl.1 rfl (Nat.le_of_ble_eq_true rfl) dX12_figure_71 (fun S_1 v_2 H locs h hG => ?_)
  exact w_X12_figure_74 hM hr hlk h (fun t0 e => k0 t0 e) hG (lv_sub hl [0, 1] rfl)
set_option maxHeartbeats 4000000 in
set_option maxRecDepth 100000 in
theorem w_X12_figure_52 {x1 : Int32} {x2 : Int32} (hM : xM p c cX12_figure m s args RX12 3 D cy xmb a z) (hr : meth.sig.returnType = none) (hlk : meth.locks = false) {S' : xSt} {v' : Unit} {S : xSt} {q : (xSt × Unit)} (h : f_X12_figure_52 x1 x2 S = some q) (k0 : ∀ t0 : xSt × Unit, q = t0 → t0 = (S', v')) {H : Heap} {locs : List Loc} (hG : xG D cy xmb a S s H locs) {ls : Array Slot} (hl : lv_has ls 3 [(0, .ref (a 0)), (1, .int x1), (2, .int x2)]) : W p l e ({ frames := 1, cells := 0, slots := 0, locals := 22 } : Room) s m args below meth c H locs 0 0 (MQ below (xQv D cy xmb a S' v' s.heap.size) args s 0 0 (xA xmb a s.heap.size)) (F0 m 52 ls []) := by
  have hx := hM.1
  have hb := hM.2.1
  refine lv_iload_n hx hb dX12_figure_52 rfl (lv_at hl 2 rfl) ?_
  refine x_if_eq (tgt := 70) hM h dX12_figure_53 (by decide) (fun c_1 h => ?_) (fun c_1 h => ?_)
  · exact w_X12_figure_70 hM hr hlk h (fun t0 e => k0 t0 e) hG (lv_sub hl [0, 1] rfl)
  · refine lv_aload_n hx hb dX12_figure_56 rfl (lv_at hl 0 rfl) ?_
    refine x_cVi (As := []) (rest := []) hM hG xml_X12_204 xwi_X12_look xws_X12_look xmt_0 (by decide) rfl h (fun S' v e => c_X12_look hM.2.2.2.2.2.2.1 e _) ⟨Nat.le_of_ble_eq_true rfl, Nat.le_of_ble_eq_true rfl⟩ rfl hl.1 rfl (Nat.le_of_ble_eq_true rfl) dX12_figure_57 (fun S_2 v_3 H locs h hG => ?_)
    refine lv_bipush (v := (48 : Int32)) hx hb dX12_figure_60 (by decide) ?_
    refine lv_bipush (v := (57 : Int32)) hx hb dX12_figure_62 (by decide) ?_
    refine x_cSi (As := [.int v_3, .int (48 : Int32), .int (57 : Int32)]) (rest := []) hM hG xml_X12_142 xwt_X12_in h (fun S' v e => c_X12_in hM.2.2.2.2.2.2.1 e _) ⟨Nat.le_of_ble_eq_true rfl, Nat.le_of_ble_eq_true rfl⟩ rfl hl.1 rfl (Nat.le_of_ble_eq_true rfl) dX12_figure_64 (fun S_4 v_5 H locs h hG => ?_)
    refine x_if_eq (tgt := 74) hM h dX12_figure_67 (by decide) (fun c_6 h => ?_) (fun c_6 h => ?_)
    · exact w_X12_figure_74 hM hr hlk h (fun t0 e => k0 t0 e) hG (lv_sub hl [0, 1] rfl)
    · exact w_X12_figure_70 hM hr hlk h (fun t0 e => k0 t0 e) hG (lv_sub hl [0, 1] rfl)
set_option maxHeartbeats 4000000 in
set_option maxRecDepth 100000 in
theorem w_X12_figure_4 {x1 : Int32} {x2 : Int32} (hM : xM p c cX12_figure m s args RX12 3 D cy xmb a z) (hr : meth.sig.returnType = none) (hlk : meth.locks = false) {S' : xSt} {v' : Unit} {S : xSt} {q : ((xSt × Int32 × Int32) ⊕ (xSt × Unit))} (h : f_X12_figure_4 S x1 x2 = some q) (k0 : ∀ t0 : xSt × Unit, q = (.inr t0) → t0 = (S', v')) (k1 : ∀ (S : xSt) (x1 : Int32) (x2 : Int32), q = (.inl (S, x1, x2)) → ∀ (H : Heap) (locs : List Loc) (ls : Array Slot), xG D cy xmb a S s H locs → lv_has ls 3 [(0, .ref (a 0)), (1, .int x1), (2, .int x2)] → W p l e ({ frames := 1, cells := 0, slots := 0, locals := 22 } : Room) s m args below meth c H locs 0 0 (MQ below (xQv D cy xmb a S' v' s.heap.size) args s 0 0 (xA xmb a s.heap.size)) (F0 m 4 ls [])) {H : Heap} {locs : List Loc} (hG : xG D cy xmb a S s H locs) {ls : Array Slot} (hl : lv_has ls 3 [(0, .ref (a 0)), (1, .int x1), (2, .int x2)]) : W p l e ({ frames := 1, cells := 0, slots := 0, locals := 22 } : Room) s m args below meth c H locs 0 0 (MQ below (xQv D cy xmb a S' v' s.heap.size) args s 0 0 (xA xmb a s.heap.size)) (F0 m 4 ls []) := by
  have hx := hM.1
  have hb := hM.2.1
  refine lv_iload_n hx hb dX12_figure_4 rfl (lv_at hl 2 rfl) ?_
  refine lv_iconst (v := (4 : Int32)) hx hb dX12_figure_5 (by decide) ?_
  refine x_icmp_ge (tgt := 52) hM h dX12_figure_6 (by decide) (fun c_1 h => ?_) (fun c_1 h => ?_)
  · obtain ⟨q1, h, e1⟩ := xmr_at h
    exact w_X12_figure_52 hM hr hlk h (fun t0 e => k0 t0 (by rw [e1, e])) hG (lv_sub hl [0, 1, 2] rfl)
  · refine lv_aload_n hx hb dX12_figure_9 rfl (lv_at hl 0 rfl) ?_
    refine x_cVi (As := []) (rest := []) hM hG xml_X12_204 xwi_X12_look xws_X12_look xmt_0 (by decide) rfl h (fun S' v e => c_X12_look hM.2.2.2.2.2.2.1 e _) ⟨Nat.le_of_ble_eq_true rfl, Nat.le_of_ble_eq_true rfl⟩ rfl hl.1 rfl (Nat.le_of_ble_eq_true rfl) dX12_figure_10 (fun S_2 v_3 H locs h hG => ?_)
    refine lv_bipush (v := (48 : Int32)) hx hb dX12_figure_13 (by decide) ?_
    refine lv_bipush (v := (57 : Int32)) hx hb dX12_figure_15 (by decide) ?_
    refine x_cSi (As := [.int v_3, .int (48 : Int32), .int (57 : Int32)]) (rest := []) hM hG xml_X12_142 xwt_X12_in h (fun S' v e => c_X12_in hM.2.2.2.2.2.2.1 e _) ⟨Nat.le_of_ble_eq_true rfl, Nat.le_of_ble_eq_true rfl⟩ rfl hl.1 rfl (Nat.le_of_ble_eq_true rfl) dX12_figure_17 (fun S_4 v_5 H locs h hG => ?_)
    refine x_if_eq (tgt := 52) hM h dX12_figure_20 (by decide) (fun c_6 h => ?_) (fun c_6 h => ?_)
    · obtain ⟨q1, h, e1⟩ := xmr_at h
      exact w_X12_figure_52 hM hr hlk h (fun t0 e => k0 t0 (by rw [e1, e])) hG (lv_sub hl [0, 1, 2] rfl)
    · refine lv_bipush (v := (10 : Int32)) hx hb dX12_figure_23 (by decide) ?_
      refine lv_iload_n hx hb dX12_figure_25 rfl (lv_at hl 1 rfl) ?_
      refine x_imul hM h dX12_figure_26 (fun v_7 h => ?_)
      refine lv_aload_n hx hb dX12_figure_27 rfl (lv_at hl 0 rfl) ?_
      refine x_cVi (As := []) (rest := [.int v_7]) hM hG xml_X12_204 xwi_X12_look xws_X12_look xmt_0 (by decide) rfl h (fun S' v e => c_X12_look hM.2.2.2.2.2.2.1 e _) ⟨Nat.le_of_ble_eq_true rfl, Nat.le_of_ble_eq_true rfl⟩ rfl hl.1 rfl (Nat.le_of_ble_eq_true rfl) dX12_figure_28 (fun S_8 v_9 H locs h hG => ?_)
      refine x_iadd hM h dX12_figure_31 (fun v_10 h => ?_)
      refine lv_bipush (v := (48 : Int32)) hx hb dX12_figure_32 (by decide) ?_
      refine x_isub hM h dX12_figure_34 (fun v_11 h => ?_)
      refine lv_istore_n (lv' := [(1, .int v_11), (0, .ref (a 0)), (2, .int x2)]) hx hb dX12_figure_35 rfl hl (by decide) rfl (fun ls hl => ?_)
      refine x_iinc hM (fun v => [(2, .int v), (1, .int v_11), (0, .ref (a 0))]) h dX12_figure_36 hl (k := 2) rfl (by decide) (by decide) (fun _ => rfl) (fun v_12 ls h hl => ?_)
      refine lv_aload_n hx hb dX12_figure_39 rfl (lv_at hl 2 rfl) ?_
      refine lv_dup hx hb dX12_figure_40 rfl ?_
      refine x_gi hM hG xfl_X12_189 xmt_0 (by decide) rfl h dX12_figure_41 (fun v_13 h => ?_)
      refine lv_iconst (v := (1 : Int32)) hx hb dX12_figure_44 (by decide) ?_
      refine x_iadd hM h dX12_figure_45 (fun v_14 h => ?_)
      refine x_pi hM hG xfl_X12_189 xfp_X12_18 xmt_0 (by decide) rfl rfl rfl h dX12_figure_46 (fun S_15 H locs h hG => ?_)
      refine lv_goto (tgt := 4) hx hb dX12_figure_49 (by decide) ?_
      exact k1 _ _ _ (Option.some.inj h).symm _ _ _ hG (lv_sub hl [2, 1, 0] rfl)
theorem wl_X12_figure_4 (hM : xM p c cX12_figure m s args RX12 3 D cy xmb a z) (hr : meth.sig.returnType = none) (hlk : meth.locks = false) {S' : xSt} {v' : Unit} {q : (xSt × Unit)} (k0 : ∀ t0 : xSt × Unit, q = t0 → t0 = (S', v')) (n : Nat) : ∀ (S : xSt) (x1 : Int32) (x2 : Int32) (H : Heap) (locs : List Loc) (ls : Array Slot), xlp (fun q : (xSt × Int32 × Int32) => f_X12_figure_4 q.1 q.2.1 q.2.2) n (S, x1, x2) = some q → xG D cy xmb a S s H locs → lv_has ls 3 [(0, .ref (a 0)), (1, .int x1), (2, .int x2)] → W p l e ({ frames := 1, cells := 0, slots := 0, locals := 22 } : Room) s m args below meth c H locs 0 0 (MQ below (xQv D cy xmb a S' v' s.heap.size) args s 0 0 (xA xmb a s.heap.size)) (F0 m 4 ls []) := by
  induction n with
  | zero => intro S x1 x2 H locs ls h; exact (xlp_0 h).elim
  | succ n ih =>
    intro S x1 x2 H locs ls h hG hl
    obtain ⟨q1, hq, hc, he⟩ := xlp_at h
    exact w_X12_figure_4 hM hr hlk (q := q1) hq (fun t0 e => k0 t0 (he _ e).symm) (fun S x1 x2 e H locs ls hG hl => ih S x1 x2 H locs ls (hc _ e) hG hl) hG hl
set_option maxHeartbeats 4000000 in
set_option maxRecDepth 100000 in
theorem w_X12_figure_0 (hM : xM p c cX12_figure m s args RX12 3 D cy xmb a z) (hr : meth.sig.returnType = none) (hlk : meth.locks = false) {S' : xSt} {v' : Unit} {S : xSt} {q : (xSt × Unit)} (h : f_X12_figure_0 S = some q) (k0 : ∀ t0 : xSt × Unit, q = t0 → t0 = (S', v')) {H : Heap} {locs : List Loc} (hG : xG D cy xmb a S s H locs) {ls : Array Slot} (hl : lv_has ls 3 [(0, .ref (a 0))]) : W p l e ({ frames := 1, cells := 0, slots := 0, locals := 22 } : Room) s m args below meth c H locs 0 0 (MQ below (xQv D cy xmb a S' v' s.heap.size) args s 0 0 (xA xmb a s.heap.size)) (F0 m 0 ls []) := by
  have hx := hM.1
  have hb := hM.2.1
  refine lv_iconst (v := (0 : Int32)) hx hb dX12_figure_0 (by decide) ?_
  refine lv_istore_n (lv' := [(1, .int (0 : Int32)), (0, .ref (a 0))]) hx hb dX12_figure_1 rfl hl (by decide) rfl (fun ls hl => ?_)
  refine lv_iconst (v := (0 : Int32)) hx hb dX12_figure_2 (by decide) ?_
  refine lv_istore_n (lv' := [(2, .int (0 : Int32)), (1, .int (0 : Int32)), (0, .ref (a 0))]) hx hb dX12_figure_3 rfl hl (by decide) rfl (fun ls hl => ?_)
  exact wl_X12_figure_4 hM hr hlk (fun t0 e => k0 t0 e) 5000 _ _ _ _ _ _ h hG (lv_sub hl [2, 1, 0] rfl)
set_option maxHeartbeats 4000000 in
set_option maxRecDepth 100000 in
theorem c_X12_figure {l : Launch} {D : va_G} {cy : Nat → ClassId} {a z : Nat → Nat} (hI : xI xmb a) {S : xSt} {S' : xSt} {v' : Unit} (hf : f_X12_figure S = some (S', v')) (sz : Nat) : Met l yX12_figure (Cond.code yX12_figure cX12_figure 3 none :: xTB) ({ frames := 1, cells := 0, slots := 0, locals := 22 } : Room) (va_Pc [.ref (a 0)] (xPre D cy xmb a z S sz)) (xQv D cy xmb a S' v' sz) 0 0 (xA xmb a sz) := by
  refine Met.ofW (cc := cX12_figure) (maxL := 3) (ret := none) (by decide) rfl ?_
  intro p e s m args below meth c s₁ B hml hv
  obtain ⟨rfl, hsz, hP, hK, hE⟩ := hv
  subst hsz
  have hl := lv_entry ([.ref (a 0)]) (n := 3) (Nat.le_of_ble_eq_true rfl)
  rw [lg_entry_eq]
  generalize (lg_sl ([.ref (a 0)]) ++ List.replicate (3 - (lg_sl ([.ref (a 0)])).length) Slot.unset).toArray = ls at hl ⊢
  have hl : lv_has ls 3 [(0, .ref (a 0))] := hl
  exact w_X12_figure_0 ⟨B.exec, B.bytes, hml, findClass_of_methodNamed B.named, fun w hw => atoms_spec (ws := Cond.code yX12_figure cX12_figure 3 none :: xTB) B.pre w (List.mem_cons_of_mem _ hw), hK, hI, hE⟩ B.returns B.notSynchronized hf (fun t0 e => e.symm) ⟨hP, va_S.rf⟩ (lv_sub hl [0] rfl)
end XWwalkM0
