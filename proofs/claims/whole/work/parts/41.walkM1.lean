section XWwalkM1
variable {p : Program} {l : Launch} {e : Env} {s : State} {m : MethodId} {args : Array Value} {below : List Frame} {meth : Method} {c : Code} {D : va_G} {cy : Nat → ClassId} {a z : Nat → Nat}
set_option maxHeartbeats 4000000 in
set_option maxRecDepth 100000 in
theorem w_X12_both_4 {d : Nat} {g_X12_both : xSt → Option (xSt × Unit)} {g_X12_compared : xSt → Option (xSt × Unit)} {g_X12_either : xSt → Option (xSt × Unit)} {g_X12_operand : xSt → Option (xSt × Unit)} {g_X12_product : xSt → Option (xSt × Unit)} {g_X12_sum : xSt → Option (xSt × Unit)} (hg_X12_both : ∀ (S : xSt) (S' : xSt) (v' : Unit), g_X12_both S = some (S', v') → ∀ sz : Nat, Met l yX12_both (Cond.code yX12_both cX12_both 1 none :: xTB) ({ frames := 2 + d, cells := 0, slots := 0, locals := 44 + d * 21 } : Room) (va_Pc [.ref (a 0)] (xPre D cy xmb a z S sz)) (xQv D cy xmb a S' v' sz) 0 0 (xA xmb a sz)) (hg_X12_compared : ∀ (S : xSt) (S' : xSt) (v' : Unit), g_X12_compared S = some (S', v') → ∀ sz : Nat, Met l yX12_compared (Cond.code yX12_compared cX12_compared 2 none :: xTB) ({ frames := 2 + d, cells := 0, slots := 0, locals := 44 + d * 21 } : Room) (va_Pc [.ref (a 0)] (xPre D cy xmb a z S sz)) (xQv D cy xmb a S' v' sz) 0 0 (xA xmb a sz)) (hg_X12_either : ∀ (S : xSt) (S' : xSt) (v' : Unit), g_X12_either S = some (S', v') → ∀ sz : Nat, Met l yX12_either (Cond.code yX12_either cX12_either 1 none :: xTB) ({ frames := 2 + d, cells := 0, slots := 0, locals := 44 + d * 21 } : Room) (va_Pc [.ref (a 0)] (xPre D cy xmb a z S sz)) (xQv D cy xmb a S' v' sz) 0 0 (xA xmb a sz)) (hg_X12_operand : ∀ (S : xSt) (S' : xSt) (v' : Unit), g_X12_operand S = some (S', v') → ∀ sz : Nat, Met l yX12_operand (Cond.code yX12_operand cX12_operand 2 none :: xTB) ({ frames := 2 + d, cells := 0, slots := 0, locals := 44 + d * 21 } : Room) (va_Pc [.ref (a 0)] (xPre D cy xmb a z S sz)) (xQv D cy xmb a S' v' sz) 0 0 (xA xmb a sz)) (hg_X12_product : ∀ (S : xSt) (S' : xSt) (v' : Unit), g_X12_product S = some (S', v') → ∀ sz : Nat, Met l yX12_product (Cond.code yX12_product cX12_product 2 none :: xTB) ({ frames := 2 + d, cells := 0, slots := 0, locals := 44 + d * 21 } : Room) (va_Pc [.ref (a 0)] (xPre D cy xmb a z S sz)) (xQv D cy xmb a S' v' sz) 0 0 (xA xmb a sz)) (hg_X12_sum : ∀ (S : xSt) (S' : xSt) (v' : Unit), g_X12_sum S = some (S', v') → ∀ sz : Nat, Met l yX12_sum (Cond.code yX12_sum cX12_sum 2 none :: xTB) ({ frames := 2 + d, cells := 0, slots := 0, locals := 44 + d * 21 } : Room) (va_Pc [.ref (a 0)] (xPre D cy xmb a z S sz)) (xQv D cy xmb a S' v' sz) 0 0 (xA xmb a sz)) (hM : xM p c cX12_both m s args RX12 1 D cy xmb a z) (hr : meth.sig.returnType = none) (hlk : meth.locks = false) {S' : xSt} {v' : Unit} {S : xSt} {q : (xSt ⊕ (xSt × Unit))} (h : f_X12_both_4 g_X12_both g_X12_compared g_X12_either g_X12_operand g_X12_product g_X12_sum S = some q) (k0 : ∀ t0 : xSt × Unit, q = (.inr t0) → t0 = (S', v')) (k1 : ∀ (S : xSt) , q = (.inl S) → ∀ (H : Heap) (locs : List Loc) (ls : Array Slot), xG D cy xmb a S s H locs → lv_has ls 1 [(0, .ref (a 0))] → W p l e ({ frames := 2 + (d + 1), cells := 0, slots := 0, locals := 44 + (d + 1) * 21 } : Room) s m args below meth c H locs 0 0 (MQ below (xQv D cy xmb a S' v' s.heap.size) args s 0 0 (xA xmb a s.heap.size)) (F0 m 4 ls [])) {H : Heap} {locs : List Loc} (hG : xG D cy xmb a S s H locs) {ls : Array Slot} (hl : lv_has ls 1 [(0, .ref (a 0))]) : W p l e ({ frames := 2 + (d + 1), cells := 0, slots := 0, locals := 44 + (d + 1) * 21 } : Room) s m args below meth c H locs 0 0 (MQ below (xQv D cy xmb a S' v' s.heap.size) args s 0 0 (xA xmb a s.heap.size)) (F0 m 4 ls []) := by
  have hx := hM.1
  have hb := hM.2.1
  refine lv_aload_n hx hb dX12_both_4 rfl (lv_at hl 0 rfl) ?_
  refine x_gi hM hG xfl_X12_192 xmt_0 (by decide) rfl h dX12_both_5 (fun v_1 h => ?_)
  refine x_if_ge (tgt := 44) hM h dX12_both_8 (by decide) (fun c_2 h => ?_) (fun c_2 h => ?_)
  · exact x_rv hM hG hr hlk (k0 _ (Option.some.inj h).symm) dX12_both_44
  · refine lv_aload_n hx hb dX12_both_11 rfl (lv_at hl 0 rfl) ?_
    refine x_cVi (As := []) (rest := []) hM hG xml_X12_204 xwi_X12_look xws_X12_look xmt_0 (by decide) rfl h (fun S' v e => c_X12_look hM.2.2.2.2.2.2.1 e _) ⟨by show _ ≤ 2 + (d + 1); omega, by show _ ≤ 44 + (d + 1) * 21; omega⟩ rfl hl.1 rfl (Nat.le_of_ble_eq_true rfl) dX12_both_12 (fun S_3 v_4 H locs h hG => ?_)
    refine lv_bipush (v := (38 : Int32)) hx hb dX12_both_15 (by decide) ?_
    refine x_icmp_ne (tgt := 44) hM h dX12_both_17 (by decide) (fun c_5 h => ?_) (fun c_5 h => ?_)
    · exact x_rv hM hG hr hlk (k0 _ (Option.some.inj h).symm) dX12_both_44
    · refine lv_aload_n hx hb dX12_both_20 rfl (lv_at hl 0 rfl) ?_
      refine lv_dup hx hb dX12_both_21 rfl ?_
      refine x_gi hM hG xfl_X12_189 xmt_0 (by decide) rfl h dX12_both_22 (fun v_6 h => ?_)
      refine lv_iconst (v := (1 : Int32)) hx hb dX12_both_25 (by decide) ?_
      refine x_iadd hM h dX12_both_26 (fun v_7 h => ?_)
      refine x_pi hM hG xfl_X12_189 xfp_X12_18 xmt_0 (by decide) rfl rfl rfl h dX12_both_27 (fun S_8 H locs h hG => ?_)
      refine lv_aload_n hx hb dX12_both_30 rfl (lv_at hl 0 rfl) ?_
      refine x_cVv (As := []) (rest := []) hM hG xml_X12_235 xwi_X12_compared xws_X12_compared xmt_0 (by decide) rfl h (fun S' v e => hg_X12_compared _ _ _ e _) ⟨by show _ ≤ 2 + (d + 1); omega, by show _ ≤ 44 + (d + 1) * 21; omega⟩ rfl hl.1 rfl (Nat.le_of_ble_eq_true rfl) dX12_both_31 (fun S_9 v_10 H locs h hG => ?_)
      refine lv_aload_n hx hb dX12_both_34 rfl (lv_at hl 0 rfl) ?_
      refine lv_bipush (v := (38 : Int32)) hx hb dX12_both_35 (by decide) ?_
      refine lv_iconst (v := (0 : Int32)) hx hb dX12_both_37 (by decide) ?_
      refine x_cVv (As := [.int (38 : Int32), .int (0 : Int32)]) (rest := []) hM hG xml_X12_208 xwi_X12_addStep xws_X12_addStep xmt_0 (by decide) rfl h (fun S' v e => c_X12_addStep hM.2.2.2.2.2.2.1 e _) ⟨by show _ ≤ 2 + (d + 1); omega, by show _ ≤ 44 + (d + 1) * 21; omega⟩ rfl hl.1 rfl (Nat.le_of_ble_eq_true rfl) dX12_both_38 (fun S_11 v_12 H locs h hG => ?_)
      refine lv_goto (tgt := 4) hx hb dX12_both_41 (by decide) ?_
      exact k1 _ (Option.some.inj h).symm _ _ _ hG (lv_sub hl [0] rfl)
theorem wl_X12_both_4 {d : Nat} {g_X12_both : xSt → Option (xSt × Unit)} {g_X12_compared : xSt → Option (xSt × Unit)} {g_X12_either : xSt → Option (xSt × Unit)} {g_X12_operand : xSt → Option (xSt × Unit)} {g_X12_product : xSt → Option (xSt × Unit)} {g_X12_sum : xSt → Option (xSt × Unit)} (hg_X12_both : ∀ (S : xSt) (S' : xSt) (v' : Unit), g_X12_both S = some (S', v') → ∀ sz : Nat, Met l yX12_both (Cond.code yX12_both cX12_both 1 none :: xTB) ({ frames := 2 + d, cells := 0, slots := 0, locals := 44 + d * 21 } : Room) (va_Pc [.ref (a 0)] (xPre D cy xmb a z S sz)) (xQv D cy xmb a S' v' sz) 0 0 (xA xmb a sz)) (hg_X12_compared : ∀ (S : xSt) (S' : xSt) (v' : Unit), g_X12_compared S = some (S', v') → ∀ sz : Nat, Met l yX12_compared (Cond.code yX12_compared cX12_compared 2 none :: xTB) ({ frames := 2 + d, cells := 0, slots := 0, locals := 44 + d * 21 } : Room) (va_Pc [.ref (a 0)] (xPre D cy xmb a z S sz)) (xQv D cy xmb a S' v' sz) 0 0 (xA xmb a sz)) (hg_X12_either : ∀ (S : xSt) (S' : xSt) (v' : Unit), g_X12_either S = some (S', v') → ∀ sz : Nat, Met l yX12_either (Cond.code yX12_either cX12_either 1 none :: xTB) ({ frames := 2 + d, cells := 0, slots := 0, locals := 44 + d * 21 } : Room) (va_Pc [.ref (a 0)] (xPre D cy xmb a z S sz)) (xQv D cy xmb a S' v' sz) 0 0 (xA xmb a sz)) (hg_X12_operand : ∀ (S : xSt) (S' : xSt) (v' : Unit), g_X12_operand S = some (S', v') → ∀ sz : Nat, Met l yX12_operand (Cond.code yX12_operand cX12_operand 2 none :: xTB) ({ frames := 2 + d, cells := 0, slots := 0, locals := 44 + d * 21 } : Room) (va_Pc [.ref (a 0)] (xPre D cy xmb a z S sz)) (xQv D cy xmb a S' v' sz) 0 0 (xA xmb a sz)) (hg_X12_product : ∀ (S : xSt) (S' : xSt) (v' : Unit), g_X12_product S = some (S', v') → ∀ sz : Nat, Met l yX12_product (Cond.code yX12_product cX12_product 2 none :: xTB) ({ frames := 2 + d, cells := 0, slots := 0, locals := 44 + d * 21 } : Room) (va_Pc [.ref (a 0)] (xPre D cy xmb a z S sz)) (xQv D cy xmb a S' v' sz) 0 0 (xA xmb a sz)) (hg_X12_sum : ∀ (S : xSt) (S' : xSt) (v' : Unit), g_X12_sum S = some (S', v') → ∀ sz : Nat, Met l yX12_sum (Cond.code yX12_sum cX12_sum 2 none :: xTB) ({ frames := 2 + d, cells := 0, slots := 0, locals := 44 + d * 21 } : Room) (va_Pc [.ref (a 0)] (xPre D cy xmb a z S sz)) (xQv D cy xmb a S' v' sz) 0 0 (xA xmb a sz)) (hM : xM p c cX12_both m s args RX12 1 D cy xmb a z) (hr : meth.sig.returnType = none) (hlk : meth.locks = false) {S' : xSt} {v' : Unit} {q : (xSt × Unit)} (k0 : ∀ t0 : xSt × Unit, q = t0 → t0 = (S', v')) (n : Nat) : ∀ (S : xSt)  (H : Heap) (locs : List Loc) (ls : Array Slot), xlp (fun q : xSt => f_X12_both_4 g_X12_both g_X12_compared g_X12_either g_X12_operand g_X12_product g_X12_sum q) n S = some q → xG D cy xmb a S s H locs → lv_has ls 1 [(0, .ref (a 0))] → W p l e ({ frames := 2 + (d + 1), cells := 0, slots := 0, locals := 44 + (d + 1) * 21 } : Room) s m args below meth c H locs 0 0 (MQ below (xQv D cy xmb a S' v' s.heap.size) args s 0 0 (xA xmb a s.heap.size)) (F0 m 4 ls []) := by
  induction n with
  | zero => intro S H locs ls h; exact (xlp_0 h).elim
  | succ n ih =>
    intro S H locs ls h hG hl
    obtain ⟨q1, hq, hc, he⟩ := xlp_at h
    exact w_X12_both_4 hg_X12_both hg_X12_compared hg_X12_either hg_X12_operand hg_X12_product hg_X12_sum hM hr hlk (q := q1) hq (fun t0 e => k0 t0 (he _ e).symm) (fun S e H locs ls hG hl => ih S H locs ls (hc _ e) hG hl) hG hl
set_option maxHeartbeats 4000000 in
set_option maxRecDepth 100000 in
theorem w_X12_both_0 {d : Nat} {g_X12_both : xSt → Option (xSt × Unit)} {g_X12_compared : xSt → Option (xSt × Unit)} {g_X12_either : xSt → Option (xSt × Unit)} {g_X12_operand : xSt → Option (xSt × Unit)} {g_X12_product : xSt → Option (xSt × Unit)} {g_X12_sum : xSt → Option (xSt × Unit)} (hg_X12_both : ∀ (S : xSt) (S' : xSt) (v' : Unit), g_X12_both S = some (S', v') → ∀ sz : Nat, Met l yX12_both (Cond.code yX12_both cX12_both 1 none :: xTB) ({ frames := 2 + d, cells := 0, slots := 0, locals := 44 + d * 21 } : Room) (va_Pc [.ref (a 0)] (xPre D cy xmb a z S sz)) (xQv D cy xmb a S' v' sz) 0 0 (xA xmb a sz)) (hg_X12_compared : ∀ (S : xSt) (S' : xSt) (v' : Unit), g_X12_compared S = some (S', v') → ∀ sz : Nat, Met l yX12_compared (Cond.code yX12_compared cX12_compared 2 none :: xTB) ({ frames := 2 + d, cells := 0, slots := 0, locals := 44 + d * 21 } : Room) (va_Pc [.ref (a 0)] (xPre D cy xmb a z S sz)) (xQv D cy xmb a S' v' sz) 0 0 (xA xmb a sz)) (hg_X12_either : ∀ (S : xSt) (S' : xSt) (v' : Unit), g_X12_either S = some (S', v') → ∀ sz : Nat, Met l yX12_either (Cond.code yX12_either cX12_either 1 none :: xTB) ({ frames := 2 + d, cells := 0, slots := 0, locals := 44 + d * 21 } : Room) (va_Pc [.ref (a 0)] (xPre D cy xmb a z S sz)) (xQv D cy xmb a S' v' sz) 0 0 (xA xmb a sz)) (hg_X12_operand : ∀ (S : xSt) (S' : xSt) (v' : Unit), g_X12_operand S = some (S', v') → ∀ sz : Nat, Met l yX12_operand (Cond.code yX12_operand cX12_operand 2 none :: xTB) ({ frames := 2 + d, cells := 0, slots := 0, locals := 44 + d * 21 } : Room) (va_Pc [.ref (a 0)] (xPre D cy xmb a z S sz)) (xQv D cy xmb a S' v' sz) 0 0 (xA xmb a sz)) (hg_X12_product : ∀ (S : xSt) (S' : xSt) (v' : Unit), g_X12_product S = some (S', v') → ∀ sz : Nat, Met l yX12_product (Cond.code yX12_product cX12_product 2 none :: xTB) ({ frames := 2 + d, cells := 0, slots := 0, locals := 44 + d * 21 } : Room) (va_Pc [.ref (a 0)] (xPre D cy xmb a z S sz)) (xQv D cy xmb a S' v' sz) 0 0 (xA xmb a sz)) (hg_X12_sum : ∀ (S : xSt) (S' : xSt) (v' : Unit), g_X12_sum S = some (S', v') → ∀ sz : Nat, Met l yX12_sum (Cond.code yX12_sum cX12_sum 2 none :: xTB) ({ frames := 2 + d, cells := 0, slots := 0, locals := 44 + d * 21 } : Room) (va_Pc [.ref (a 0)] (xPre D cy xmb a z S sz)) (xQv D cy xmb a S' v' sz) 0 0 (xA xmb a sz)) (hM : xM p c cX12_both m s args RX12 1 D cy xmb a z) (hr : meth.sig.returnType = none) (hlk : meth.locks = false) {S' : xSt} {v' : Unit} {S : xSt} {q : (xSt × Unit)} (h : f_X12_both_0 g_X12_both g_X12_compared g_X12_either g_X12_operand g_X12_product g_X12_sum S = some q) (k0 : ∀ t0 : xSt × Unit, q = t0 → t0 = (S', v')) {H : Heap} {locs : List Loc} (hG : xG D cy xmb a S s H locs) {ls : Array Slot} (hl : lv_has ls 1 [(0, .ref (a 0))]) : W p l e ({ frames := 2 + (d + 1), cells := 0, slots := 0, locals := 44 + (d + 1) * 21 } : Room) s m args below meth c H locs 0 0 (MQ below (xQv D cy xmb a S' v' s.heap.size) args s 0 0 (xA xmb a s.heap.size)) (F0 m 0 ls []) := by
  have hx := hM.1
  have hb := hM.2.1
  refine lv_aload_n hx hb dX12_both_0 rfl (lv_at hl 0 rfl) ?_
  refine x_cVv (As := []) (rest := []) hM hG xml_X12_235 xwi_X12_compared xws_X12_compared xmt_0 (by decide) rfl h (fun S' v e => hg_X12_compared _ _ _ e _) ⟨by show _ ≤ 2 + (d + 1); omega, by show _ ≤ 44 + (d + 1) * 21; omega⟩ rfl hl.1 rfl (Nat.le_of_ble_eq_true rfl) dX12_both_1 (fun S_1 v_2 H locs h hG => ?_)
  exact wl_X12_both_4 hg_X12_both hg_X12_compared hg_X12_either hg_X12_operand hg_X12_product hg_X12_sum hM hr hlk (fun t0 e => k0 t0 e) 5000 _ _ _ _ h hG (lv_sub hl [0] rfl)
set_option maxHeartbeats 4000000 in
set_option maxRecDepth 100000 in
theorem w_X12_compared_35 {d : Nat} {g_X12_both : xSt → Option (xSt × Unit)} {g_X12_compared : xSt → Option (xSt × Unit)} {g_X12_either : xSt → Option (xSt × Unit)} {g_X12_operand : xSt → Option (xSt × Unit)} {g_X12_product : xSt → Option (xSt × Unit)} {g_X12_sum : xSt → Option (xSt × Unit)} (hg_X12_both : ∀ (S : xSt) (S' : xSt) (v' : Unit), g_X12_both S = some (S', v') → ∀ sz : Nat, Met l yX12_both (Cond.code yX12_both cX12_both 1 none :: xTB) ({ frames := 2 + d, cells := 0, slots := 0, locals := 44 + d * 21 } : Room) (va_Pc [.ref (a 0)] (xPre D cy xmb a z S sz)) (xQv D cy xmb a S' v' sz) 0 0 (xA xmb a sz)) (hg_X12_compared : ∀ (S : xSt) (S' : xSt) (v' : Unit), g_X12_compared S = some (S', v') → ∀ sz : Nat, Met l yX12_compared (Cond.code yX12_compared cX12_compared 2 none :: xTB) ({ frames := 2 + d, cells := 0, slots := 0, locals := 44 + d * 21 } : Room) (va_Pc [.ref (a 0)] (xPre D cy xmb a z S sz)) (xQv D cy xmb a S' v' sz) 0 0 (xA xmb a sz)) (hg_X12_either : ∀ (S : xSt) (S' : xSt) (v' : Unit), g_X12_either S = some (S', v') → ∀ sz : Nat, Met l yX12_either (Cond.code yX12_either cX12_either 1 none :: xTB) ({ frames := 2 + d, cells := 0, slots := 0, locals := 44 + d * 21 } : Room) (va_Pc [.ref (a 0)] (xPre D cy xmb a z S sz)) (xQv D cy xmb a S' v' sz) 0 0 (xA xmb a sz)) (hg_X12_operand : ∀ (S : xSt) (S' : xSt) (v' : Unit), g_X12_operand S = some (S', v') → ∀ sz : Nat, Met l yX12_operand (Cond.code yX12_operand cX12_operand 2 none :: xTB) ({ frames := 2 + d, cells := 0, slots := 0, locals := 44 + d * 21 } : Room) (va_Pc [.ref (a 0)] (xPre D cy xmb a z S sz)) (xQv D cy xmb a S' v' sz) 0 0 (xA xmb a sz)) (hg_X12_product : ∀ (S : xSt) (S' : xSt) (v' : Unit), g_X12_product S = some (S', v') → ∀ sz : Nat, Met l yX12_product (Cond.code yX12_product cX12_product 2 none :: xTB) ({ frames := 2 + d, cells := 0, slots := 0, locals := 44 + d * 21 } : Room) (va_Pc [.ref (a 0)] (xPre D cy xmb a z S sz)) (xQv D cy xmb a S' v' sz) 0 0 (xA xmb a sz)) (hg_X12_sum : ∀ (S : xSt) (S' : xSt) (v' : Unit), g_X12_sum S = some (S', v') → ∀ sz : Nat, Met l yX12_sum (Cond.code yX12_sum cX12_sum 2 none :: xTB) ({ frames := 2 + d, cells := 0, slots := 0, locals := 44 + d * 21 } : Room) (va_Pc [.ref (a 0)] (xPre D cy xmb a z S sz)) (xQv D cy xmb a S' v' sz) 0 0 (xA xmb a sz)) {x1 : Int32} (hM : xM p c cX12_compared m s args RX12 2 D cy xmb a z) (hr : meth.sig.returnType = none) (hlk : meth.locks = false) {S' : xSt} {v' : Unit} {S : xSt} {q : (xSt × Unit)} (h : f_X12_compared_35 g_X12_both g_X12_compared g_X12_either g_X12_operand g_X12_product g_X12_sum x1 S = some q) (k0 : ∀ t0 : xSt × Unit, q = t0 → t0 = (S', v')) {H : Heap} {locs : List Loc} (hG : xG D cy xmb a S s H locs) {ls : Array Slot} (hl : lv_has ls 2 [(0, .ref (a 0)), (1, .int x1)]) : W p l e ({ frames := 2 + (d + 1), cells := 0, slots := 0, locals := 44 + (d + 1) * 21 } : Room) s m args below meth c H locs 0 0 (MQ below (xQv D cy xmb a S' v' s.heap.size) args s 0 0 (xA xmb a s.heap.size)) (F0 m 35 ls []) := by
  have hx := hM.1
  have hb := hM.2.1
  refine lv_aload_n hx hb dX12_compared_35 rfl (lv_at hl 0 rfl) ?_
  refine lv_dup hx hb dX12_compared_36 rfl ?_
  refine x_gi hM hG xfl_X12_189 xmt_0 (by decide) rfl h dX12_compared_37 (fun v_1 h => ?_)
  refine lv_iconst (v := (1 : Int32)) hx hb dX12_compared_40 (by decide) ?_
  refine x_iadd hM h dX12_compared_41 (fun v_2 h => ?_)
  refine x_pi hM hG xfl_X12_189 xfp_X12_18 xmt_0 (by decide) rfl rfl rfl h dX12_compared_42 (fun S_3 H locs h hG => ?_)
  refine lv_aload_n hx hb dX12_compared_45 rfl (lv_at hl 0 rfl) ?_
  refine x_cVv (As := []) (rest := []) hM hG xml_X12_232 xwi_X12_sum xws_X12_sum xmt_0 (by decide) rfl h (fun S' v e => hg_X12_sum _ _ _ e _) ⟨by show _ ≤ 2 + (d + 1); omega, by show _ ≤ 44 + (d + 1) * 21; omega⟩ rfl hl.1 rfl (Nat.le_of_ble_eq_true rfl) dX12_compared_46 (fun S_4 v_5 H locs h hG => ?_)
  refine lv_aload_n hx hb dX12_compared_49 rfl (lv_at hl 0 rfl) ?_
  refine lv_iload_n hx hb dX12_compared_50 rfl (lv_at hl 1 rfl) ?_
  refine lv_iconst (v := (0 : Int32)) hx hb dX12_compared_51 (by decide) ?_
  refine x_cVv (As := [.int x1, .int (0 : Int32)]) (rest := []) hM hG xml_X12_208 xwi_X12_addStep xws_X12_addStep xmt_0 (by decide) rfl h (fun S' v e => c_X12_addStep hM.2.2.2.2.2.2.1 e _) ⟨by show _ ≤ 2 + (d + 1); omega, by show _ ≤ 44 + (d + 1) * 21; omega⟩ rfl hl.1 rfl (Nat.le_of_ble_eq_true rfl) dX12_compared_52 (fun S_6 v_7 H locs h hG => ?_)
  exact x_rv hM hG hr hlk (k0 _ (Option.some.inj h).symm) dX12_compared_55
set_option maxHeartbeats 4000000 in
set_option maxRecDepth 100000 in
theorem w_X12_compared_0 {d : Nat} {g_X12_both : xSt → Option (xSt × Unit)} {g_X12_compared : xSt → Option (xSt × Unit)} {g_X12_either : xSt → Option (xSt × Unit)} {g_X12_operand : xSt → Option (xSt × Unit)} {g_X12_product : xSt → Option (xSt × Unit)} {g_X12_sum : xSt → Option (xSt × Unit)} (hg_X12_both : ∀ (S : xSt) (S' : xSt) (v' : Unit), g_X12_both S = some (S', v') → ∀ sz : Nat, Met l yX12_both (Cond.code yX12_both cX12_both 1 none :: xTB) ({ frames := 2 + d, cells := 0, slots := 0, locals := 44 + d * 21 } : Room) (va_Pc [.ref (a 0)] (xPre D cy xmb a z S sz)) (xQv D cy xmb a S' v' sz) 0 0 (xA xmb a sz)) (hg_X12_compared : ∀ (S : xSt) (S' : xSt) (v' : Unit), g_X12_compared S = some (S', v') → ∀ sz : Nat, Met l yX12_compared (Cond.code yX12_compared cX12_compared 2 none :: xTB) ({ frames := 2 + d, cells := 0, slots := 0, locals := 44 + d * 21 } : Room) (va_Pc [.ref (a 0)] (xPre D cy xmb a z S sz)) (xQv D cy xmb a S' v' sz) 0 0 (xA xmb a sz)) (hg_X12_either : ∀ (S : xSt) (S' : xSt) (v' : Unit), g_X12_either S = some (S', v') → ∀ sz : Nat, Met l yX12_either (Cond.code yX12_either cX12_either 1 none :: xTB) ({ frames := 2 + d, cells := 0, slots := 0, locals := 44 + d * 21 } : Room) (va_Pc [.ref (a 0)] (xPre D cy xmb a z S sz)) (xQv D cy xmb a S' v' sz) 0 0 (xA xmb a sz)) (hg_X12_operand : ∀ (S : xSt) (S' : xSt) (v' : Unit), g_X12_operand S = some (S', v') → ∀ sz : Nat, Met l yX12_operand (Cond.code yX12_operand cX12_operand 2 none :: xTB) ({ frames := 2 + d, cells := 0, slots := 0, locals := 44 + d * 21 } : Room) (va_Pc [.ref (a 0)] (xPre D cy xmb a z S sz)) (xQv D cy xmb a S' v' sz) 0 0 (xA xmb a sz)) (hg_X12_product : ∀ (S : xSt) (S' : xSt) (v' : Unit), g_X12_product S = some (S', v') → ∀ sz : Nat, Met l yX12_product (Cond.code yX12_product cX12_product 2 none :: xTB) ({ frames := 2 + d, cells := 0, slots := 0, locals := 44 + d * 21 } : Room) (va_Pc [.ref (a 0)] (xPre D cy xmb a z S sz)) (xQv D cy xmb a S' v' sz) 0 0 (xA xmb a sz)) (hg_X12_sum : ∀ (S : xSt) (S' : xSt) (v' : Unit), g_X12_sum S = some (S', v') → ∀ sz : Nat, Met l yX12_sum (Cond.code yX12_sum cX12_sum 2 none :: xTB) ({ frames := 2 + d, cells := 0, slots := 0, locals := 44 + d * 21 } : Room) (va_Pc [.ref (a 0)] (xPre D cy xmb a z S sz)) (xQv D cy xmb a S' v' sz) 0 0 (xA xmb a sz)) (hM : xM p c cX12_compared m s args RX12 2 D cy xmb a z) (hr : meth.sig.returnType = none) (hlk : meth.locks = false) {S' : xSt} {v' : Unit} {S : xSt} {q : (xSt × Unit)} (h : f_X12_compared_0 g_X12_both g_X12_compared g_X12_either g_X12_operand g_X12_product g_X12_sum S = some q) (k0 : ∀ t0 : xSt × Unit, q = t0 → t0 = (S', v')) {H : Heap} {locs : List Loc} (hG : xG D cy xmb a S s H locs) {ls : Array Slot} (hl : lv_has ls 2 [(0, .ref (a 0))]) : W p l e ({ frames := 2 + (d + 1), cells := 0, slots := 0, locals := 44 + (d + 1) * 21 } : Room) s m args below meth c H locs 0 0 (MQ below (xQv D cy xmb a S' v' s.heap.size) args s 0 0 (xA xmb a s.heap.size)) (F0 m 0 ls []) := by
  have hx := hM.1
  have hb := hM.2.1
  refine lv_aload_n hx hb dX12_compared_0 rfl (lv_at hl 0 rfl) ?_
  refine x_cVv (As := []) (rest := []) hM hG xml_X12_232 xwi_X12_sum xws_X12_sum xmt_0 (by decide) rfl h (fun S' v e => hg_X12_sum _ _ _ e _) ⟨by show _ ≤ 2 + (d + 1); omega, by show _ ≤ 44 + (d + 1) * 21; omega⟩ rfl hl.1 rfl (Nat.le_of_ble_eq_true rfl) dX12_compared_1 (fun S_1 v_2 H locs h hG => ?_)
  refine lv_aload_n hx hb dX12_compared_4 rfl (lv_at hl 0 rfl) ?_
  refine x_cVi (As := []) (rest := []) hM hG xml_X12_204 xwi_X12_look xws_X12_look xmt_0 (by decide) rfl h (fun S' v e => c_X12_look hM.2.2.2.2.2.2.1 e _) ⟨by show _ ≤ 2 + (d + 1); omega, by show _ ≤ 44 + (d + 1) * 21; omega⟩ rfl hl.1 rfl (Nat.le_of_ble_eq_true rfl) dX12_compared_5 (fun S_3 v_4 H locs h hG => ?_)
  refine lv_istore_n (lv' := [(1, .int v_4), (0, .ref (a 0))]) hx hb dX12_compared_8 rfl hl (by decide) rfl (fun ls hl => ?_)
  refine lv_aload_n hx hb dX12_compared_9 rfl (lv_at hl 1 rfl) ?_
  refine x_gi hM hG xfl_X12_192 xmt_0 (by decide) rfl h dX12_compared_10 (fun v_5 h => ?_)
  refine x_if_ge (tgt := 34) hM h dX12_compared_13 (by decide) (fun c_6 h => ?_) (fun c_6 h => ?_)
  · exact x_rv hM hG hr hlk (k0 _ (Option.some.inj h).symm) dX12_compared_34
  · refine lv_iload_n hx hb dX12_compared_16 rfl (lv_at hl 0 rfl) ?_
    refine lv_bipush (v := (60 : Int32)) hx hb dX12_compared_17 (by decide) ?_
    refine x_icmp_eq (tgt := 35) hM h dX12_compared_19 (by decide) (fun c_7 h => ?_) (fun c_7 h => ?_)
    · exact w_X12_compared_35 hg_X12_both hg_X12_compared hg_X12_either hg_X12_operand hg_X12_product hg_X12_sum hM hr hlk h (fun t0 e => k0 t0 e) hG (lv_sub hl [1, 0] rfl)
    · refine lv_iload_n hx hb dX12_compared_22 rfl (lv_at hl 0 rfl) ?_
      refine lv_bipush (v := (61 : Int32)) hx hb dX12_compared_23 (by decide) ?_
      refine x_icmp_eq (tgt := 35) hM h dX12_compared_25 (by decide) (fun c_8 h => ?_) (fun c_8 h => ?_)
      · exact w_X12_compared_35 hg_X12_both hg_X12_compared hg_X12_either hg_X12_operand hg_X12_product hg_X12_sum hM hr hlk h (fun t0 e => k0 t0 e) hG (lv_sub hl [1, 0] rfl)
      · refine lv_iload_n hx hb dX12_compared_28 rfl (lv_at hl 0 rfl) ?_
        refine lv_bipush (v := (62 : Int32)) hx hb dX12_compared_29 (by decide) ?_
        refine x_icmp_eq (tgt := 35) hM h dX12_compared_31 (by decide) (fun c_9 h => ?_) (fun c_9 h => ?_)
        · exact w_X12_compared_35 hg_X12_both hg_X12_compared hg_X12_either hg_X12_operand hg_X12_product hg_X12_sum hM hr hlk h (fun t0 e => k0 t0 e) hG (lv_sub hl [1, 0] rfl)
        · exact x_rv hM hG hr hlk (k0 _ (Option.some.inj h).symm) dX12_compared_34
set_option maxHeartbeats 4000000 in
set_option maxRecDepth 100000 in
theorem w_X12_either_4 {d : Nat} {g_X12_both : xSt → Option (xSt × Unit)} {g_X12_compared : xSt → Option (xSt × Unit)} {g_X12_either : xSt → Option (xSt × Unit)} {g_X12_operand : xSt → Option (xSt × Unit)} {g_X12_product : xSt → Option (xSt × Unit)} {g_X12_sum : xSt → Option (xSt × Unit)} (hg_X12_both : ∀ (S : xSt) (S' : xSt) (v' : Unit), g_X12_both S = some (S', v') → ∀ sz : Nat, Met l yX12_both (Cond.code yX12_both cX12_both 1 none :: xTB) ({ frames := 2 + d, cells := 0, slots := 0, locals := 44 + d * 21 } : Room) (va_Pc [.ref (a 0)] (xPre D cy xmb a z S sz)) (xQv D cy xmb a S' v' sz) 0 0 (xA xmb a sz)) (hg_X12_compared : ∀ (S : xSt) (S' : xSt) (v' : Unit), g_X12_compared S = some (S', v') → ∀ sz : Nat, Met l yX12_compared (Cond.code yX12_compared cX12_compared 2 none :: xTB) ({ frames := 2 + d, cells := 0, slots := 0, locals := 44 + d * 21 } : Room) (va_Pc [.ref (a 0)] (xPre D cy xmb a z S sz)) (xQv D cy xmb a S' v' sz) 0 0 (xA xmb a sz)) (hg_X12_either : ∀ (S : xSt) (S' : xSt) (v' : Unit), g_X12_either S = some (S', v') → ∀ sz : Nat, Met l yX12_either (Cond.code yX12_either cX12_either 1 none :: xTB) ({ frames := 2 + d, cells := 0, slots := 0, locals := 44 + d * 21 } : Room) (va_Pc [.ref (a 0)] (xPre D cy xmb a z S sz)) (xQv D cy xmb a S' v' sz) 0 0 (xA xmb a sz)) (hg_X12_operand : ∀ (S : xSt) (S' : xSt) (v' : Unit), g_X12_operand S = some (S', v') → ∀ sz : Nat, Met l yX12_operand (Cond.code yX12_operand cX12_operand 2 none :: xTB) ({ frames := 2 + d, cells := 0, slots := 0, locals := 44 + d * 21 } : Room) (va_Pc [.ref (a 0)] (xPre D cy xmb a z S sz)) (xQv D cy xmb a S' v' sz) 0 0 (xA xmb a sz)) (hg_X12_product : ∀ (S : xSt) (S' : xSt) (v' : Unit), g_X12_product S = some (S', v') → ∀ sz : Nat, Met l yX12_product (Cond.code yX12_product cX12_product 2 none :: xTB) ({ frames := 2 + d, cells := 0, slots := 0, locals := 44 + d * 21 } : Room) (va_Pc [.ref (a 0)] (xPre D cy xmb a z S sz)) (xQv D cy xmb a S' v' sz) 0 0 (xA xmb a sz)) (hg_X12_sum : ∀ (S : xSt) (S' : xSt) (v' : Unit), g_X12_sum S = some (S', v') → ∀ sz : Nat, Met l yX12_sum (Cond.code yX12_sum cX12_sum 2 none :: xTB) ({ frames := 2 + d, cells := 0, slots := 0, locals := 44 + d * 21 } : Room) (va_Pc [.ref (a 0)] (xPre D cy xmb a z S sz)) (xQv D cy xmb a S' v' sz) 0 0 (xA xmb a sz)) (hM : xM p c cX12_either m s args RX12 1 D cy xmb a z) (hr : meth.sig.returnType = none) (hlk : meth.locks = false) {S' : xSt} {v' : Unit} {S : xSt} {q : (xSt ⊕ (xSt × Unit))} (h : f_X12_either_4 g_X12_both g_X12_compared g_X12_either g_X12_operand g_X12_product g_X12_sum S = some q) (k0 : ∀ t0 : xSt × Unit, q = (.inr t0) → t0 = (S', v')) (k1 : ∀ (S : xSt) , q = (.inl S) → ∀ (H : Heap) (locs : List Loc) (ls : Array Slot), xG D cy xmb a S s H locs → lv_has ls 1 [(0, .ref (a 0))] → W p l e ({ frames := 2 + (d + 1), cells := 0, slots := 0, locals := 44 + (d + 1) * 21 } : Room) s m args below meth c H locs 0 0 (MQ below (xQv D cy xmb a S' v' s.heap.size) args s 0 0 (xA xmb a s.heap.size)) (F0 m 4 ls [])) {H : Heap} {locs : List Loc} (hG : xG D cy xmb a S s H locs) {ls : Array Slot} (hl : lv_has ls 1 [(0, .ref (a 0))]) : W p l e ({ frames := 2 + (d + 1), cells := 0, slots := 0, locals := 44 + (d + 1) * 21 } : Room) s m args below meth c H locs 0 0 (MQ below (xQv D cy xmb a S' v' s.heap.size) args s 0 0 (xA xmb a s.heap.size)) (F0 m 4 ls []) := by
  have hx := hM.1
  have hb := hM.2.1
  refine lv_aload_n hx hb dX12_either_4 rfl (lv_at hl 0 rfl) ?_
  refine x_gi hM hG xfl_X12_192 xmt_0 (by decide) rfl h dX12_either_5 (fun v_1 h => ?_)
  refine x_if_ge (tgt := 44) hM h dX12_either_8 (by decide) (fun c_2 h => ?_) (fun c_2 h => ?_)
  · exact x_rv hM hG hr hlk (k0 _ (Option.some.inj h).symm) dX12_either_44
  · refine lv_aload_n hx hb dX12_either_11 rfl (lv_at hl 0 rfl) ?_
    refine x_cVi (As := []) (rest := []) hM hG xml_X12_204 xwi_X12_look xws_X12_look xmt_0 (by decide) rfl h (fun S' v e => c_X12_look hM.2.2.2.2.2.2.1 e _) ⟨by show _ ≤ 2 + (d + 1); omega, by show _ ≤ 44 + (d + 1) * 21; omega⟩ rfl hl.1 rfl (Nat.le_of_ble_eq_true rfl) dX12_either_12 (fun S_3 v_4 H locs h hG => ?_)
    refine lv_bipush (v := (124 : Int32)) hx hb dX12_either_15 (by decide) ?_
    refine x_icmp_ne (tgt := 44) hM h dX12_either_17 (by decide) (fun c_5 h => ?_) (fun c_5 h => ?_)
    · exact x_rv hM hG hr hlk (k0 _ (Option.some.inj h).symm) dX12_either_44
    · refine lv_aload_n hx hb dX12_either_20 rfl (lv_at hl 0 rfl) ?_
      refine lv_dup hx hb dX12_either_21 rfl ?_
      refine x_gi hM hG xfl_X12_189 xmt_0 (by decide) rfl h dX12_either_22 (fun v_6 h => ?_)
      refine lv_iconst (v := (1 : Int32)) hx hb dX12_either_25 (by decide) ?_
      refine x_iadd hM h dX12_either_26 (fun v_7 h => ?_)
      refine x_pi hM hG xfl_X12_189 xfp_X12_18 xmt_0 (by decide) rfl rfl rfl h dX12_either_27 (fun S_8 H locs h hG => ?_)
      refine lv_aload_n hx hb dX12_either_30 rfl (lv_at hl 0 rfl) ?_
      refine x_cVv (As := []) (rest := []) hM hG xml_X12_238 xwi_X12_both xws_X12_both xmt_0 (by decide) rfl h (fun S' v e => hg_X12_both _ _ _ e _) ⟨by show _ ≤ 2 + (d + 1); omega, by show _ ≤ 44 + (d + 1) * 21; omega⟩ rfl hl.1 rfl (Nat.le_of_ble_eq_true rfl) dX12_either_31 (fun S_9 v_10 H locs h hG => ?_)
      refine lv_aload_n hx hb dX12_either_34 rfl (lv_at hl 0 rfl) ?_
      refine lv_bipush (v := (124 : Int32)) hx hb dX12_either_35 (by decide) ?_
      refine lv_iconst (v := (0 : Int32)) hx hb dX12_either_37 (by decide) ?_
      refine x_cVv (As := [.int (124 : Int32), .int (0 : Int32)]) (rest := []) hM hG xml_X12_208 xwi_X12_addStep xws_X12_addStep xmt_0 (by decide) rfl h (fun S' v e => c_X12_addStep hM.2.2.2.2.2.2.1 e _) ⟨by show _ ≤ 2 + (d + 1); omega, by show _ ≤ 44 + (d + 1) * 21; omega⟩ rfl hl.1 rfl (Nat.le_of_ble_eq_true rfl) dX12_either_38 (fun S_11 v_12 H locs h hG => ?_)
      refine lv_goto (tgt := 4) hx hb dX12_either_41 (by decide) ?_
      exact k1 _ (Option.some.inj h).symm _ _ _ hG (lv_sub hl [0] rfl)
theorem wl_X12_either_4 {d : Nat} {g_X12_both : xSt → Option (xSt × Unit)} {g_X12_compared : xSt → Option (xSt × Unit)} {g_X12_either : xSt → Option (xSt × Unit)} {g_X12_operand : xSt → Option (xSt × Unit)} {g_X12_product : xSt → Option (xSt × Unit)} {g_X12_sum : xSt → Option (xSt × Unit)} (hg_X12_both : ∀ (S : xSt) (S' : xSt) (v' : Unit), g_X12_both S = some (S', v') → ∀ sz : Nat, Met l yX12_both (Cond.code yX12_both cX12_both 1 none :: xTB) ({ frames := 2 + d, cells := 0, slots := 0, locals := 44 + d * 21 } : Room) (va_Pc [.ref (a 0)] (xPre D cy xmb a z S sz)) (xQv D cy xmb a S' v' sz) 0 0 (xA xmb a sz)) (hg_X12_compared : ∀ (S : xSt) (S' : xSt) (v' : Unit), g_X12_compared S = some (S', v') → ∀ sz : Nat, Met l yX12_compared (Cond.code yX12_compared cX12_compared 2 none :: xTB) ({ frames := 2 + d, cells := 0, slots := 0, locals := 44 + d * 21 } : Room) (va_Pc [.ref (a 0)] (xPre D cy xmb a z S sz)) (xQv D cy xmb a S' v' sz) 0 0 (xA xmb a sz)) (hg_X12_either : ∀ (S : xSt) (S' : xSt) (v' : Unit), g_X12_either S = some (S', v') → ∀ sz : Nat, Met l yX12_either (Cond.code yX12_either cX12_either 1 none :: xTB) ({ frames := 2 + d, cells := 0, slots := 0, locals := 44 + d * 21 } : Room) (va_Pc [.ref (a 0)] (xPre D cy xmb a z S sz)) (xQv D cy xmb a S' v' sz) 0 0 (xA xmb a sz)) (hg_X12_operand : ∀ (S : xSt) (S' : xSt) (v' : Unit), g_X12_operand S = some (S', v') → ∀ sz : Nat, Met l yX12_operand (Cond.code yX12_operand cX12_operand 2 none :: xTB) ({ frames := 2 + d, cells := 0, slots := 0, locals := 44 + d * 21 } : Room) (va_Pc [.ref (a 0)] (xPre D cy xmb a z S sz)) (xQv D cy xmb a S' v' sz) 0 0 (xA xmb a sz)) (hg_X12_product : ∀ (S : xSt) (S' : xSt) (v' : Unit), g_X12_product S = some (S', v') → ∀ sz : Nat, Met l yX12_product (Cond.code yX12_product cX12_product 2 none :: xTB) ({ frames := 2 + d, cells := 0, slots := 0, locals := 44 + d * 21 } : Room) (va_Pc [.ref (a 0)] (xPre D cy xmb a z S sz)) (xQv D cy xmb a S' v' sz) 0 0 (xA xmb a sz)) (hg_X12_sum : ∀ (S : xSt) (S' : xSt) (v' : Unit), g_X12_sum S = some (S', v') → ∀ sz : Nat, Met l yX12_sum (Cond.code yX12_sum cX12_sum 2 none :: xTB) ({ frames := 2 + d, cells := 0, slots := 0, locals := 44 + d * 21 } : Room) (va_Pc [.ref (a 0)] (xPre D cy xmb a z S sz)) (xQv D cy xmb a S' v' sz) 0 0 (xA xmb a sz)) (hM : xM p c cX12_either m s args RX12 1 D cy xmb a z) (hr : meth.sig.returnType = none) (hlk : meth.locks = false) {S' : xSt} {v' : Unit} {q : (xSt × Unit)} (k0 : ∀ t0 : xSt × Unit, q = t0 → t0 = (S', v')) (n : Nat) : ∀ (S : xSt)  (H : Heap) (locs : List Loc) (ls : Array Slot), xlp (fun q : xSt => f_X12_either_4 g_X12_both g_X12_compared g_X12_either g_X12_operand g_X12_product g_X12_sum q) n S = some q → xG D cy xmb a S s H locs → lv_has ls 1 [(0, .ref (a 0))] → W p l e ({ frames := 2 + (d + 1), cells := 0, slots := 0, locals := 44 + (d + 1) * 21 } : Room) s m args below meth c H locs 0 0 (MQ below (xQv D cy xmb a S' v' s.heap.size) args s 0 0 (xA xmb a s.heap.size)) (F0 m 4 ls []) := by
  induction n with
  | zero => intro S H locs ls h; exact (xlp_0 h).elim
  | succ n ih =>
    intro S H locs ls h hG hl
    obtain ⟨q1, hq, hc, he⟩ := xlp_at h
    exact w_X12_either_4 hg_X12_both hg_X12_compared hg_X12_either hg_X12_operand hg_X12_product hg_X12_sum hM hr hlk (q := q1) hq (fun t0 e => k0 t0 (he _ e).symm) (fun S e H locs ls hG hl => ih S H locs ls (hc _ e) hG hl) hG hl
set_option maxHeartbeats 4000000 in
set_option maxRecDepth 100000 in
theorem w_X12_either_0 {d : Nat} {g_X12_both : xSt → Option (xSt × Unit)} {g_X12_compared : xSt → Option (xSt × Unit)} {g_X12_either : xSt → Option (xSt × Unit)} {g_X12_operand : xSt → Option (xSt × Unit)} {g_X12_product : xSt → Option (xSt × Unit)} {g_X12_sum : xSt → Option (xSt × Unit)} (hg_X12_both : ∀ (S : xSt) (S' : xSt) (v' : Unit), g_X12_both S = some (S', v') → ∀ sz : Nat, Met l yX12_both (Cond.code yX12_both cX12_both 1 none :: xTB) ({ frames := 2 + d, cells := 0, slots := 0, locals := 44 + d * 21 } : Room) (va_Pc [.ref (a 0)] (xPre D cy xmb a z S sz)) (xQv D cy xmb a S' v' sz) 0 0 (xA xmb a sz)) (hg_X12_compared : ∀ (S : xSt) (S' : xSt) (v' : Unit), g_X12_compared S = some (S', v') → ∀ sz : Nat, Met l yX12_compared (Cond.code yX12_compared cX12_compared 2 none :: xTB) ({ frames := 2 + d, cells := 0, slots := 0, locals := 44 + d * 21 } : Room) (va_Pc [.ref (a 0)] (xPre D cy xmb a z S sz)) (xQv D cy xmb a S' v' sz) 0 0 (xA xmb a sz)) (hg_X12_either : ∀ (S : xSt) (S' : xSt) (v' : Unit), g_X12_either S = some (S', v') → ∀ sz : Nat, Met l yX12_either (Cond.code yX12_either cX12_either 1 none :: xTB) ({ frames := 2 + d, cells := 0, slots := 0, locals := 44 + d * 21 } : Room) (va_Pc [.ref (a 0)] (xPre D cy xmb a z S sz)) (xQv D cy xmb a S' v' sz) 0 0 (xA xmb a sz)) (hg_X12_operand : ∀ (S : xSt) (S' : xSt) (v' : Unit), g_X12_operand S = some (S', v') → ∀ sz : Nat, Met l yX12_operand (Cond.code yX12_operand cX12_operand 2 none :: xTB) ({ frames := 2 + d, cells := 0, slots := 0, locals := 44 + d * 21 } : Room) (va_Pc [.ref (a 0)] (xPre D cy xmb a z S sz)) (xQv D cy xmb a S' v' sz) 0 0 (xA xmb a sz)) (hg_X12_product : ∀ (S : xSt) (S' : xSt) (v' : Unit), g_X12_product S = some (S', v') → ∀ sz : Nat, Met l yX12_product (Cond.code yX12_product cX12_product 2 none :: xTB) ({ frames := 2 + d, cells := 0, slots := 0, locals := 44 + d * 21 } : Room) (va_Pc [.ref (a 0)] (xPre D cy xmb a z S sz)) (xQv D cy xmb a S' v' sz) 0 0 (xA xmb a sz)) (hg_X12_sum : ∀ (S : xSt) (S' : xSt) (v' : Unit), g_X12_sum S = some (S', v') → ∀ sz : Nat, Met l yX12_sum (Cond.code yX12_sum cX12_sum 2 none :: xTB) ({ frames := 2 + d, cells := 0, slots := 0, locals := 44 + d * 21 } : Room) (va_Pc [.ref (a 0)] (xPre D cy xmb a z S sz)) (xQv D cy xmb a S' v' sz) 0 0 (xA xmb a sz)) (hM : xM p c cX12_either m s args RX12 1 D cy xmb a z) (hr : meth.sig.returnType = none) (hlk : meth.locks = false) {S' : xSt} {v' : Unit} {S : xSt} {q : (xSt × Unit)} (h : f_X12_either_0 g_X12_both g_X12_compared g_X12_either g_X12_operand g_X12_product g_X12_sum S = some q) (k0 : ∀ t0 : xSt × Unit, q = t0 → t0 = (S', v')) {H : Heap} {locs : List Loc} (hG : xG D cy xmb a S s H locs) {ls : Array Slot} (hl : lv_has ls 1 [(0, .ref (a 0))]) : W p l e ({ frames := 2 + (d + 1), cells := 0, slots := 0, locals := 44 + (d + 1) * 21 } : Room) s m args below meth c H locs 0 0 (MQ below (xQv D cy xmb a S' v' s.heap.size) args s 0 0 (xA xmb a s.heap.size)) (F0 m 0 ls []) := by
  have hx := hM.1
  have hb := hM.2.1
  refine lv_aload_n hx hb dX12_either_0 rfl (lv_at hl 0 rfl) ?_
  refine x_cVv (As := []) (rest := []) hM hG xml_X12_238 xwi_X12_both xws_X12_both xmt_0 (by decide) rfl h (fun S' v e => hg_X12_both _ _ _ e _) ⟨by show _ ≤ 2 + (d + 1); omega, by show _ ≤ 44 + (d + 1) * 21; omega⟩ rfl hl.1 rfl (Nat.le_of_ble_eq_true rfl) dX12_either_1 (fun S_1 v_2 H locs h hG => ?_)
  exact wl_X12_either_4 hg_X12_both hg_X12_compared hg_X12_either hg_X12_operand hg_X12_product hg_X12_sum hM hr hlk (fun t0 e => k0 t0 e) 5000 _ _ _ _ h hG (lv_sub hl [0] rfl)
set_option maxHeartbeats 4000000 in
set_option maxRecDepth 100000 in
theorem w_X12_operand_80 {d : Nat} {g_X12_both : xSt → Option (xSt × Unit)} {g_X12_compared : xSt → Option (xSt × Unit)} {g_X12_either : xSt → Option (xSt × Unit)} {g_X12_operand : xSt → Option (xSt × Unit)} {g_X12_product : xSt → Option (xSt × Unit)} {g_X12_sum : xSt → Option (xSt × Unit)} (hg_X12_both : ∀ (S : xSt) (S' : xSt) (v' : Unit), g_X12_both S = some (S', v') → ∀ sz : Nat, Met l yX12_both (Cond.code yX12_both cX12_both 1 none :: xTB) ({ frames := 2 + d, cells := 0, slots := 0, locals := 44 + d * 21 } : Room) (va_Pc [.ref (a 0)] (xPre D cy xmb a z S sz)) (xQv D cy xmb a S' v' sz) 0 0 (xA xmb a sz)) (hg_X12_compared : ∀ (S : xSt) (S' : xSt) (v' : Unit), g_X12_compared S = some (S', v') → ∀ sz : Nat, Met l yX12_compared (Cond.code yX12_compared cX12_compared 2 none :: xTB) ({ frames := 2 + d, cells := 0, slots := 0, locals := 44 + d * 21 } : Room) (va_Pc [.ref (a 0)] (xPre D cy xmb a z S sz)) (xQv D cy xmb a S' v' sz) 0 0 (xA xmb a sz)) (hg_X12_either : ∀ (S : xSt) (S' : xSt) (v' : Unit), g_X12_either S = some (S', v') → ∀ sz : Nat, Met l yX12_either (Cond.code yX12_either cX12_either 1 none :: xTB) ({ frames := 2 + d, cells := 0, slots := 0, locals := 44 + d * 21 } : Room) (va_Pc [.ref (a 0)] (xPre D cy xmb a z S sz)) (xQv D cy xmb a S' v' sz) 0 0 (xA xmb a sz)) (hg_X12_operand : ∀ (S : xSt) (S' : xSt) (v' : Unit), g_X12_operand S = some (S', v') → ∀ sz : Nat, Met l yX12_operand (Cond.code yX12_operand cX12_operand 2 none :: xTB) ({ frames := 2 + d, cells := 0, slots := 0, locals := 44 + d * 21 } : Room) (va_Pc [.ref (a 0)] (xPre D cy xmb a z S sz)) (xQv D cy xmb a S' v' sz) 0 0 (xA xmb a sz)) (hg_X12_product : ∀ (S : xSt) (S' : xSt) (v' : Unit), g_X12_product S = some (S', v') → ∀ sz : Nat, Met l yX12_product (Cond.code yX12_product cX12_product 2 none :: xTB) ({ frames := 2 + d, cells := 0, slots := 0, locals := 44 + d * 21 } : Room) (va_Pc [.ref (a 0)] (xPre D cy xmb a z S sz)) (xQv D cy xmb a S' v' sz) 0 0 (xA xmb a sz)) (hg_X12_sum : ∀ (S : xSt) (S' : xSt) (v' : Unit), g_X12_sum S = some (S', v') → ∀ sz : Nat, Met l yX12_sum (Cond.code yX12_sum cX12_sum 2 none :: xTB) ({ frames := 2 + d, cells := 0, slots := 0, locals := 44 + d * 21 } : Room) (va_Pc [.ref (a 0)] (xPre D cy xmb a z S sz)) (xQv D cy xmb a S' v' sz) 0 0 (xA xmb a sz)) {y1 : Int32} (hM : xM p c cX12_operand m s args RX12 2 D cy xmb a z) (hr : meth.sig.returnType = none) (hlk : meth.locks = false) {S' : xSt} {v' : Unit} {S : xSt} {q : (xSt × Unit)} (h : f_X12_operand_80 g_X12_both g_X12_compared g_X12_either g_X12_operand g_X12_product g_X12_sum y1 S = some q) (k0 : ∀ t0 : xSt × Unit, q = t0 → t0 = (S', v')) {H : Heap} {locs : List Loc} (hG : xG D cy xmb a S s H locs) {ls : Array Slot} (hl : lv_has ls 2 []) : W p l e ({ frames := 2 + (d + 1), cells := 0, slots := 0, locals := 44 + (d + 1) * 21 } : Room) s m args below meth c H locs 0 0 (MQ below (xQv D cy xmb a S' v' s.heap.size) args s 0 0 (xA xmb a s.heap.size)) (F0 m 80 ls [.int y1, .ref (a 0)]) := by
  have hx := hM.1
  have hb := hM.2.1
  refine lv_iconst (v := (0 : Int32)) hx hb dX12_operand_80 (by decide) ?_
  refine x_cVv (As := [.int y1, .int (0 : Int32)]) (rest := []) hM hG xml_X12_208 xwi_X12_addStep xws_X12_addStep xmt_0 (by decide) rfl h (fun S' v e => c_X12_addStep hM.2.2.2.2.2.2.1 e _) ⟨by show _ ≤ 2 + (d + 1); omega, by show _ ≤ 44 + (d + 1) * 21; omega⟩ rfl hl.1 rfl (Nat.le_of_ble_eq_true rfl) dX12_operand_81 (fun S_1 v_2 H locs h hG => ?_)
  refine lv_goto (tgt := 154) hx hb dX12_operand_84 (by decide) ?_
  exact x_rv hM hG hr hlk (k0 _ (Option.some.inj h).symm) dX12_operand_154
set_option maxHeartbeats 4000000 in
set_option maxRecDepth 100000 in
theorem w_X12_operand_46 {d : Nat} {g_X12_both : xSt → Option (xSt × Unit)} {g_X12_compared : xSt → Option (xSt × Unit)} {g_X12_either : xSt → Option (xSt × Unit)} {g_X12_operand : xSt → Option (xSt × Unit)} {g_X12_product : xSt → Option (xSt × Unit)} {g_X12_sum : xSt → Option (xSt × Unit)} (hg_X12_both : ∀ (S : xSt) (S' : xSt) (v' : Unit), g_X12_both S = some (S', v') → ∀ sz : Nat, Met l yX12_both (Cond.code yX12_both cX12_both 1 none :: xTB) ({ frames := 2 + d, cells := 0, slots := 0, locals := 44 + d * 21 } : Room) (va_Pc [.ref (a 0)] (xPre D cy xmb a z S sz)) (xQv D cy xmb a S' v' sz) 0 0 (xA xmb a sz)) (hg_X12_compared : ∀ (S : xSt) (S' : xSt) (v' : Unit), g_X12_compared S = some (S', v') → ∀ sz : Nat, Met l yX12_compared (Cond.code yX12_compared cX12_compared 2 none :: xTB) ({ frames := 2 + d, cells := 0, slots := 0, locals := 44 + d * 21 } : Room) (va_Pc [.ref (a 0)] (xPre D cy xmb a z S sz)) (xQv D cy xmb a S' v' sz) 0 0 (xA xmb a sz)) (hg_X12_either : ∀ (S : xSt) (S' : xSt) (v' : Unit), g_X12_either S = some (S', v') → ∀ sz : Nat, Met l yX12_either (Cond.code yX12_either cX12_either 1 none :: xTB) ({ frames := 2 + d, cells := 0, slots := 0, locals := 44 + d * 21 } : Room) (va_Pc [.ref (a 0)] (xPre D cy xmb a z S sz)) (xQv D cy xmb a S' v' sz) 0 0 (xA xmb a sz)) (hg_X12_operand : ∀ (S : xSt) (S' : xSt) (v' : Unit), g_X12_operand S = some (S', v') → ∀ sz : Nat, Met l yX12_operand (Cond.code yX12_operand cX12_operand 2 none :: xTB) ({ frames := 2 + d, cells := 0, slots := 0, locals := 44 + d * 21 } : Room) (va_Pc [.ref (a 0)] (xPre D cy xmb a z S sz)) (xQv D cy xmb a S' v' sz) 0 0 (xA xmb a sz)) (hg_X12_product : ∀ (S : xSt) (S' : xSt) (v' : Unit), g_X12_product S = some (S', v') → ∀ sz : Nat, Met l yX12_product (Cond.code yX12_product cX12_product 2 none :: xTB) ({ frames := 2 + d, cells := 0, slots := 0, locals := 44 + d * 21 } : Room) (va_Pc [.ref (a 0)] (xPre D cy xmb a z S sz)) (xQv D cy xmb a S' v' sz) 0 0 (xA xmb a sz)) (hg_X12_sum : ∀ (S : xSt) (S' : xSt) (v' : Unit), g_X12_sum S = some (S', v') → ∀ sz : Nat, Met l yX12_sum (Cond.code yX12_sum cX12_sum 2 none :: xTB) ({ frames := 2 + d, cells := 0, slots := 0, locals := 44 + d * 21 } : Room) (va_Pc [.ref (a 0)] (xPre D cy xmb a z S sz)) (xQv D cy xmb a S' v' sz) 0 0 (xA xmb a sz)) {x1 : Int32} (hM : xM p c cX12_operand m s args RX12 2 D cy xmb a z) (hr : meth.sig.returnType = none) (hlk : meth.locks = false) {S' : xSt} {v' : Unit} {S : xSt} {q : (xSt × Unit)} (h : f_X12_operand_46 g_X12_both g_X12_compared g_X12_either g_X12_operand g_X12_product g_X12_sum x1 S = some q) (k0 : ∀ t0 : xSt × Unit, q = t0 → t0 = (S', v')) {H : Heap} {locs : List Loc} (hG : xG D cy xmb a S s H locs) {ls : Array Slot} (hl : lv_has ls 2 [(0, .ref (a 0)), (1, .int x1)]) : W p l e ({ frames := 2 + (d + 1), cells := 0, slots := 0, locals := 44 + (d + 1) * 21 } : Room) s m args below meth c H locs 0 0 (MQ below (xQv D cy xmb a S' v' s.heap.size) args s 0 0 (xA xmb a s.heap.size)) (F0 m 46 ls []) := by
  have hx := hM.1
  have hb := hM.2.1
  refine lv_aload_n hx hb dX12_operand_46 rfl (lv_at hl 0 rfl) ?_
  refine x_cVi (As := []) (rest := []) hM hG xml_X12_216 xwi_X12_opens xws_X12_opens xmt_0 (by decide) rfl h (fun S' v e => c_X12_opens hM.2.2.2.2.2.2.1 e _) ⟨by show _ ≤ 2 + (d + 1); omega, by show _ ≤ 44 + (d + 1) * 21; omega⟩ rfl hl.1 rfl (Nat.le_of_ble_eq_true rfl) dX12_operand_47 (fun S_1 v_2 H locs h hG => ?_)
  refine x_if_ne (tgt := 54) hM h dX12_operand_50 (by decide) (fun c_3 h => ?_) (fun c_3 h => ?_)
  · refine lv_aload_n hx hb dX12_operand_54 rfl (lv_at hl 0 rfl) ?_
    refine x_cVv (As := []) (rest := []) hM hG xml_X12_220 xwi_X12_operand xws_X12_operand xmt_0 (by decide) rfl h (fun S' v e => hg_X12_operand _ _ _ e _) ⟨by show _ ≤ 2 + (d + 1); omega, by show _ ≤ 44 + (d + 1) * 21; omega⟩ rfl hl.1 rfl (Nat.le_of_ble_eq_true rfl) dX12_operand_55 (fun S_4 v_5 H locs h hG => ?_)
    refine lv_aload_n hx hb dX12_operand_58 rfl (lv_at hl 0 rfl) ?_
    refine lv_dup hx hb dX12_operand_59 rfl ?_
    refine x_gi hM hG xfl_X12_198 xmt_0 (by decide) rfl h dX12_operand_60 (fun v_6 h => ?_)
    refine lv_iconst (v := (1 : Int32)) hx hb dX12_operand_63 (by decide) ?_
    refine x_isub hM h dX12_operand_64 (fun v_7 h => ?_)
    refine x_pi hM hG xfl_X12_198 xfp_X12_20 xmt_0 (by decide) rfl rfl rfl h dX12_operand_65 (fun S_8 H locs h hG => ?_)
    refine lv_aload_n hx hb dX12_operand_68 rfl (lv_at hl 0 rfl) ?_
    refine lv_iload_n hx hb dX12_operand_69 rfl (lv_at hl 1 rfl) ?_
    refine lv_bipush (v := (33 : Int32)) hx hb dX12_operand_70 (by decide) ?_
    refine x_icmp_ne (tgt := 79) hM h dX12_operand_72 (by decide) (fun c_9 h => ?_) (fun c_9 h => ?_)
    · refine lv_iconst (v := (4 : Int32)) hx hb dX12_operand_79 (by decide) ?_
      exact w_X12_operand_80 hg_X12_both hg_X12_compared hg_X12_either hg_X12_operand hg_X12_product hg_X12_sum hM hr hlk h (fun t0 e => k0 t0 e) hG (lv_sub hl [] rfl)
    · refine lv_iconst (v := (3 : Int32)) hx hb dX12_operand_75 (by decide) ?_
      refine lv_goto (tgt := 80) hx hb dX12_operand_76 (by decide) ?_
      exact w_X12_operand_80 hg_X12_both hg_X12_compared hg_X12_either hg_X12_operand hg_X12_product hg_X12_sum hM hr hlk h (fun t0 e => k0 t0 e) hG (lv_sub hl [] rfl)
  · exact x_rv hM hG hr hlk (k0 _ (Option.some.inj h).symm) dX12_operand_53
set_option maxHeartbeats 4000000 in
set_option maxRecDepth 100000 in
theorem w_X12_operand_0 {d : Nat} {g_X12_both : xSt → Option (xSt × Unit)} {g_X12_compared : xSt → Option (xSt × Unit)} {g_X12_either : xSt → Option (xSt × Unit)} {g_X12_operand : xSt → Option (xSt × Unit)} {g_X12_product : xSt → Option (xSt × Unit)} {g_X12_sum : xSt → Option (xSt × Unit)} (hg_X12_both : ∀ (S : xSt) (S' : xSt) (v' : Unit), g_X12_both S = some (S', v') → ∀ sz : Nat, Met l yX12_both (Cond.code yX12_both cX12_both 1 none :: xTB) ({ frames := 2 + d, cells := 0, slots := 0, locals := 44 + d * 21 } : Room) (va_Pc [.ref (a 0)] (xPre D cy xmb a z S sz)) (xQv D cy xmb a S' v' sz) 0 0 (xA xmb a sz)) (hg_X12_compared : ∀ (S : xSt) (S' : xSt) (v' : Unit), g_X12_compared S = some (S', v') → ∀ sz : Nat, Met l yX12_compared (Cond.code yX12_compared cX12_compared 2 none :: xTB) ({ frames := 2 + d, cells := 0, slots := 0, locals := 44 + d * 21 } : Room) (va_Pc [.ref (a 0)] (xPre D cy xmb a z S sz)) (xQv D cy xmb a S' v' sz) 0 0 (xA xmb a sz)) (hg_X12_either : ∀ (S : xSt) (S' : xSt) (v' : Unit), g_X12_either S = some (S', v') → ∀ sz : Nat, Met l yX12_either (Cond.code yX12_either cX12_either 1 none :: xTB) ({ frames := 2 + d, cells := 0, slots := 0, locals := 44 + d * 21 } : Room) (va_Pc [.ref (a 0)] (xPre D cy xmb a z S sz)) (xQv D cy xmb a S' v' sz) 0 0 (xA xmb a sz)) (hg_X12_operand : ∀ (S : xSt) (S' : xSt) (v' : Unit), g_X12_operand S = some (S', v') → ∀ sz : Nat, Met l yX12_operand (Cond.code yX12_operand cX12_operand 2 none :: xTB) ({ frames := 2 + d, cells := 0, slots := 0, locals := 44 + d * 21 } : Room) (va_Pc [.ref (a 0)] (xPre D cy xmb a z S sz)) (xQv D cy xmb a S' v' sz) 0 0 (xA xmb a sz)) (hg_X12_product : ∀ (S : xSt) (S' : xSt) (v' : Unit), g_X12_product S = some (S', v') → ∀ sz : Nat, Met l yX12_product (Cond.code yX12_product cX12_product 2 none :: xTB) ({ frames := 2 + d, cells := 0, slots := 0, locals := 44 + d * 21 } : Room) (va_Pc [.ref (a 0)] (xPre D cy xmb a z S sz)) (xQv D cy xmb a S' v' sz) 0 0 (xA xmb a sz)) (hg_X12_sum : ∀ (S : xSt) (S' : xSt) (v' : Unit), g_X12_sum S = some (S', v') → ∀ sz : Nat, Met l yX12_sum (Cond.code yX12_sum cX12_sum 2 none :: xTB) ({ frames := 2 + d, cells := 0, slots := 0, locals := 44 + d * 21 } : Room) (va_Pc [.ref (a 0)] (xPre D cy xmb a z S sz)) (xQv D cy xmb a S' v' sz) 0 0 (xA xmb a sz)) (hM : xM p c cX12_operand m s args RX12 2 D cy xmb a z) (hr : meth.sig.returnType = none) (hlk : meth.locks = false) {S' : xSt} {v' : Unit} {S : xSt} {q : (xSt × Unit)} (h : f_X12_operand_0 g_X12_both g_X12_compared g_X12_either g_X12_operand g_X12_product g_X12_sum S = some q) (k0 : ∀ t0 : xSt × Unit, q = t0 → t0 = (S', v')) {H : Heap} {locs : List Loc} (hG : xG D cy xmb a S s H locs) {ls : Array Slot} (hl : lv_has ls 2 [(0, .ref (a 0))]) : W p l e ({ frames := 2 + (d + 1), cells := 0, slots := 0, locals := 44 + (d + 1) * 21 } : Room) s m args below meth c H locs 0 0 (MQ below (xQv D cy xmb a S' v' s.heap.size) args s 0 0 (xA xmb a s.heap.size)) (F0 m 0 ls []) := by
  have hx := hM.1
  have hb := hM.2.1
  refine lv_aload_n hx hb dX12_operand_0 rfl (lv_at hl 0 rfl) ?_
  refine x_cVi (As := []) (rest := []) hM hG xml_X12_204 xwi_X12_look xws_X12_look xmt_0 (by decide) rfl h (fun S' v e => c_X12_look hM.2.2.2.2.2.2.1 e _) ⟨by show _ ≤ 2 + (d + 1); omega, by show _ ≤ 44 + (d + 1) * 21; omega⟩ rfl hl.1 rfl (Nat.le_of_ble_eq_true rfl) dX12_operand_1 (fun S_1 v_2 H locs h hG => ?_)
  refine lv_istore_n (lv' := [(1, .int v_2), (0, .ref (a 0))]) hx hb dX12_operand_4 rfl hl (by decide) rfl (fun ls hl => ?_)
  refine lv_iload_n hx hb dX12_operand_5 rfl (lv_at hl 0 rfl) ?_
  refine x_cSi (As := [.int v_2]) (rest := []) hM hG xml_X12_212 xwt_X12_nameOf h (fun S' v e => c_X12_nameOf hM.2.2.2.2.2.2.1 e _) ⟨by show _ ≤ 2 + (d + 1); omega, by show _ ≤ 44 + (d + 1) * 21; omega⟩ rfl hl.1 rfl (Nat.le_of_ble_eq_true rfl) dX12_operand_6 (fun S_3 v_4 H locs h hG => ?_)
  refine x_if_lt (tgt := 34) hM h dX12_operand_9 (by decide) (fun c_5 h => ?_) (fun c_5 h => ?_)
  · refine lv_iload_n hx hb dX12_operand_34 rfl (lv_at hl 0 rfl) ?_
    refine lv_bipush (v := (33 : Int32)) hx hb dX12_operand_35 (by decide) ?_
    refine x_icmp_eq (tgt := 46) hM h dX12_operand_37 (by decide) (fun c_6 h => ?_) (fun c_6 h => ?_)
    · exact w_X12_operand_46 hg_X12_both hg_X12_compared hg_X12_either hg_X12_operand hg_X12_product hg_X12_sum hM hr hlk h (fun t0 e => k0 t0 e) hG (lv_sub hl [1, 0] rfl)
    · refine lv_iload_n hx hb dX12_operand_40 rfl (lv_at hl 0 rfl) ?_
      refine lv_bipush (v := (45 : Int32)) hx hb dX12_operand_41 (by decide) ?_
      refine x_icmp_ne (tgt := 87) hM h dX12_operand_43 (by decide) (fun c_7 h => ?_) (fun c_7 h => ?_)
      · refine lv_iload_n hx hb dX12_operand_87 rfl (lv_at hl 0 rfl) ?_
        refine lv_bipush (v := (40 : Int32)) hx hb dX12_operand_88 (by decide) ?_
        refine x_icmp_ne (tgt := 150) hM h dX12_operand_90 (by decide) (fun c_8 h => ?_) (fun c_8 h => ?_)
        · refine lv_aload_n hx hb dX12_operand_150 rfl (lv_at hl 1 rfl) ?_
          refine x_cVv (As := []) (rest := []) hM hG xml_X12_226 xwi_X12_figure xws_X12_figure xmt_0 (by decide) rfl h (fun S' v e => c_X12_figure hM.2.2.2.2.2.2.1 e _) ⟨by show _ ≤ 2 + (d + 1); omega, by show _ ≤ 44 + (d + 1) * 21; omega⟩ rfl hl.1 rfl (Nat.le_of_ble_eq_true rfl) dX12_operand_151 (fun S_9 v_10 H locs h hG => ?_)
          exact x_rv hM hG hr hlk (k0 _ (Option.some.inj h).symm) dX12_operand_154
        · refine lv_aload_n hx hb dX12_operand_93 rfl (lv_at hl 1 rfl) ?_
          refine x_cVi (As := []) (rest := []) hM hG xml_X12_216 xwi_X12_opens xws_X12_opens xmt_0 (by decide) rfl h (fun S' v e => c_X12_opens hM.2.2.2.2.2.2.1 e _) ⟨by show _ ≤ 2 + (d + 1); omega, by show _ ≤ 44 + (d + 1) * 21; omega⟩ rfl hl.1 rfl (Nat.le_of_ble_eq_true rfl) dX12_operand_94 (fun S_11 v_12 H locs h hG => ?_)
          refine x_if_ne (tgt := 101) hM h dX12_operand_97 (by decide) (fun c_13 h => ?_) (fun c_13 h => ?_)
          · refine lv_aload_n hx hb dX12_operand_101 rfl (lv_at hl 1 rfl) ?_
            refine x_cVv (As := []) (rest := []) hM hG xml_X12_223 xwi_X12_either xws_X12_either xmt_0 (by decide) rfl h (fun S' v e => hg_X12_either _ _ _ e _) ⟨by show _ ≤ 2 + (d + 1); omega, by show _ ≤ 44 + (d + 1) * 21; omega⟩ rfl hl.1 rfl (Nat.le_of_ble_eq_true rfl) dX12_operand_102 (fun S_14 v_15 H locs h hG => ?_)
            refine lv_aload_n hx hb dX12_operand_105 rfl (lv_at hl 1 rfl) ?_
            refine x_gi hM hG xfl_X12_192 xmt_0 (by decide) rfl h dX12_operand_106 (fun v_16 h => ?_)
            refine x_if_lt (tgt := 113) hM h dX12_operand_109 (by decide) (fun c_17 h => ?_) (fun c_17 h => ?_)
            · refine lv_aload_n hx hb dX12_operand_113 rfl (lv_at hl 1 rfl) ?_
              refine x_cVi (As := []) (rest := []) hM hG xml_X12_204 xwi_X12_look xws_X12_look xmt_0 (by decide) rfl h (fun S' v e => c_X12_look hM.2.2.2.2.2.2.1 e _) ⟨by show _ ≤ 2 + (d + 1); omega, by show _ ≤ 44 + (d + 1) * 21; omega⟩ rfl hl.1 rfl (Nat.le_of_ble_eq_true rfl) dX12_operand_114 (fun S_18 v_19 H locs h hG => ?_)
              refine lv_bipush (v := (41 : Int32)) hx hb dX12_operand_117 (by decide) ?_
              refine x_icmp_eq (tgt := 127) hM h dX12_operand_119 (by decide) (fun c_20 h => ?_) (fun c_20 h => ?_)
              · refine lv_aload_n hx hb dX12_operand_127 rfl (lv_at hl 1 rfl) ?_
                refine lv_dup hx hb dX12_operand_128 rfl ?_
                refine x_gi hM hG xfl_X12_189 xmt_0 (by decide) rfl h dX12_operand_129 (fun v_21 h => ?_)
                refine lv_iconst (v := (1 : Int32)) hx hb dX12_operand_132 (by decide) ?_
                refine x_iadd hM h dX12_operand_133 (fun v_22 h => ?_)
                refine x_pi hM hG xfl_X12_189 xfp_X12_18 xmt_0 (by decide) rfl rfl rfl h dX12_operand_134 (fun S_23 H locs h hG => ?_)
                refine lv_aload_n hx hb dX12_operand_137 rfl (lv_at hl 1 rfl) ?_
                refine lv_dup hx hb dX12_operand_138 rfl ?_
                refine x_gi hM hG xfl_X12_198 xmt_0 (by decide) rfl h dX12_operand_139 (fun v_24 h => ?_)
                refine lv_iconst (v := (1 : Int32)) hx hb dX12_operand_142 (by decide) ?_
                refine x_isub hM h dX12_operand_143 (fun v_25 h => ?_)
                refine x_pi hM hG xfl_X12_198 xfp_X12_20 xmt_0 (by decide) rfl rfl rfl h dX12_operand_144 (fun S_26 H locs h hG => ?_)
                refine lv_goto (tgt := 154) hx hb dX12_operand_147 (by decide) ?_
                exact x_rv hM hG hr hlk (k0 _ (Option.some.inj h).symm) dX12_operand_154
              · refine lv_aload_n hx hb dX12_operand_122 rfl (lv_at hl 1 rfl) ?_
                refine x_cVv (As := []) (rest := []) hM hG xml_X12_201 xwi_X12_wrong xws_X12_wrong xmt_0 (by decide) rfl h (fun S' v e => c_X12_wrong hM.2.2.2.2.2.2.1 e _) ⟨by show _ ≤ 2 + (d + 1); omega, by show _ ≤ 44 + (d + 1) * 21; omega⟩ rfl hl.1 rfl (Nat.le_of_ble_eq_true rfl) dX12_operand_123 (fun S_27 v_28 H locs h hG => ?_)
                exact x_rv hM hG hr hlk (k0 _ (Option.some.inj h).symm) dX12_operand_126
            · exact x_rv hM hG hr hlk (k0 _ (Option.some.inj h).symm) dX12_operand_112
          · exact x_rv hM hG hr hlk (k0 _ (Option.some.inj h).symm) dX12_operand_100
      · exact w_X12_operand_46 hg_X12_both hg_X12_compared hg_X12_either hg_X12_operand hg_X12_product hg_X12_sum hM hr hlk h (fun t0 e => k0 t0 e) hG (lv_sub hl [1, 0] rfl)
  · refine lv_aload_n hx hb dX12_operand_12 rfl (lv_at hl 1 rfl) ?_
    refine lv_iconst (v := (2 : Int32)) hx hb dX12_operand_13 (by decide) ?_
    refine lv_iload_n hx hb dX12_operand_14 rfl (lv_at hl 0 rfl) ?_
    refine x_cSi (As := [.int v_2]) (rest := [.int (2 : Int32), .ref (a 0)]) hM hG xml_X12_212 xwt_X12_nameOf h (fun S' v e => c_X12_nameOf hM.2.2.2.2.2.2.1 e _) ⟨by show _ ≤ 2 + (d + 1); omega, by show _ ≤ 44 + (d + 1) * 21; omega⟩ rfl hl.1 rfl (Nat.le_of_ble_eq_true rfl) dX12_operand_15 (fun S_29 v_30 H locs h hG => ?_)
    refine x_cVv (As := [.int (2 : Int32), .int v_30]) (rest := []) hM hG xml_X12_208 xwi_X12_addStep xws_X12_addStep xmt_0 (by decide) rfl h (fun S' v e => c_X12_addStep hM.2.2.2.2.2.2.1 e _) ⟨by show _ ≤ 2 + (d + 1); omega, by show _ ≤ 44 + (d + 1) * 21; omega⟩ rfl hl.1 rfl (Nat.le_of_ble_eq_true rfl) dX12_operand_18 (fun S_31 v_32 H locs h hG => ?_)
    refine lv_aload_n hx hb dX12_operand_21 rfl (lv_at hl 1 rfl) ?_
    refine lv_dup hx hb dX12_operand_22 rfl ?_
    refine x_gi hM hG xfl_X12_189 xmt_0 (by decide) rfl h dX12_operand_23 (fun v_33 h => ?_)
    refine lv_iconst (v := (1 : Int32)) hx hb dX12_operand_26 (by decide) ?_
    refine x_iadd hM h dX12_operand_27 (fun v_34 h => ?_)
    refine x_pi hM hG xfl_X12_189 xfp_X12_18 xmt_0 (by decide) rfl rfl rfl h dX12_operand_28 (fun S_35 H locs h hG => ?_)
    refine lv_goto (tgt := 154) hx hb dX12_operand_31 (by decide) ?_
    exact x_rv hM hG hr hlk (k0 _ (Option.some.inj h).symm) dX12_operand_154
set_option maxHeartbeats 4000000 in
set_option maxRecDepth 100000 in
theorem w_X12_product_38 {d : Nat} {g_X12_both : xSt → Option (xSt × Unit)} {g_X12_compared : xSt → Option (xSt × Unit)} {g_X12_either : xSt → Option (xSt × Unit)} {g_X12_operand : xSt → Option (xSt × Unit)} {g_X12_product : xSt → Option (xSt × Unit)} {g_X12_sum : xSt → Option (xSt × Unit)} (hg_X12_both : ∀ (S : xSt) (S' : xSt) (v' : Unit), g_X12_both S = some (S', v') → ∀ sz : Nat, Met l yX12_both (Cond.code yX12_both cX12_both 1 none :: xTB) ({ frames := 2 + d, cells := 0, slots := 0, locals := 44 + d * 21 } : Room) (va_Pc [.ref (a 0)] (xPre D cy xmb a z S sz)) (xQv D cy xmb a S' v' sz) 0 0 (xA xmb a sz)) (hg_X12_compared : ∀ (S : xSt) (S' : xSt) (v' : Unit), g_X12_compared S = some (S', v') → ∀ sz : Nat, Met l yX12_compared (Cond.code yX12_compared cX12_compared 2 none :: xTB) ({ frames := 2 + d, cells := 0, slots := 0, locals := 44 + d * 21 } : Room) (va_Pc [.ref (a 0)] (xPre D cy xmb a z S sz)) (xQv D cy xmb a S' v' sz) 0 0 (xA xmb a sz)) (hg_X12_either : ∀ (S : xSt) (S' : xSt) (v' : Unit), g_X12_either S = some (S', v') → ∀ sz : Nat, Met l yX12_either (Cond.code yX12_either cX12_either 1 none :: xTB) ({ frames := 2 + d, cells := 0, slots := 0, locals := 44 + d * 21 } : Room) (va_Pc [.ref (a 0)] (xPre D cy xmb a z S sz)) (xQv D cy xmb a S' v' sz) 0 0 (xA xmb a sz)) (hg_X12_operand : ∀ (S : xSt) (S' : xSt) (v' : Unit), g_X12_operand S = some (S', v') → ∀ sz : Nat, Met l yX12_operand (Cond.code yX12_operand cX12_operand 2 none :: xTB) ({ frames := 2 + d, cells := 0, slots := 0, locals := 44 + d * 21 } : Room) (va_Pc [.ref (a 0)] (xPre D cy xmb a z S sz)) (xQv D cy xmb a S' v' sz) 0 0 (xA xmb a sz)) (hg_X12_product : ∀ (S : xSt) (S' : xSt) (v' : Unit), g_X12_product S = some (S', v') → ∀ sz : Nat, Met l yX12_product (Cond.code yX12_product cX12_product 2 none :: xTB) ({ frames := 2 + d, cells := 0, slots := 0, locals := 44 + d * 21 } : Room) (va_Pc [.ref (a 0)] (xPre D cy xmb a z S sz)) (xQv D cy xmb a S' v' sz) 0 0 (xA xmb a sz)) (hg_X12_sum : ∀ (S : xSt) (S' : xSt) (v' : Unit), g_X12_sum S = some (S', v') → ∀ sz : Nat, Met l yX12_sum (Cond.code yX12_sum cX12_sum 2 none :: xTB) ({ frames := 2 + d, cells := 0, slots := 0, locals := 44 + d * 21 } : Room) (va_Pc [.ref (a 0)] (xPre D cy xmb a z S sz)) (xQv D cy xmb a S' v' sz) 0 0 (xA xmb a sz)) (hM : xM p c cX12_product m s args RX12 2 D cy xmb a z) (hr : meth.sig.returnType = none) (hlk : meth.locks = false) {S' : xSt} {v' : Unit} {S : xSt} {q : (xSt ⊕ (xSt × Unit))} (h : f_X12_product_38 g_X12_both g_X12_compared g_X12_either g_X12_operand g_X12_product g_X12_sum S = some q) (k0 : ∀ t0 : xSt × Unit, q = (.inr t0) → t0 = (S', v')) (k1 : ∀ (S : xSt) , q = (.inl S) → ∀ (H : Heap) (locs : List Loc) (ls : Array Slot), xG D cy xmb a S s H locs → lv_has ls 2 [(0, .ref (a 0))] → W p l e ({ frames := 2 + (d + 1), cells := 0, slots := 0, locals := 44 + (d + 1) * 21 } : Room) s m args below meth c H locs 0 0 (MQ below (xQv D cy xmb a S' v' s.heap.size) args s 0 0 (xA xmb a s.heap.size)) (F0 m 4 ls [])) {H : Heap} {locs : List Loc} (hG : xG D cy xmb a S s H locs) {ls : Array Slot} (hl : lv_has ls 2 [(0, .ref (a 0))]) : W p l e ({ frames := 2 + (d + 1), cells := 0, slots := 0, locals := 44 + (d + 1) * 21 } : Room) s m args below meth c H locs 0 0 (MQ below (xQv D cy xmb a S' v' s.heap.size) args s 0 0 (xA xmb a s.heap.size)) (F0 m 38 ls []) := by
  have hx := hM.1
  have hb := hM.2.1
  refine lv_aload_n hx hb dX12_product_38 rfl (lv_at hl 0 rfl) ?_
  refine x_cVi (As := []) (rest := []) hM hG xml_X12_204 xwi_X12_look xws_X12_look xmt_0 (by decide) rfl h (fun S' v e => c_X12_look hM.2.2.2.2.2.2.1 e _) ⟨by show _ ≤ 2 + (d + 1); omega, by show _ ≤ 44 + (d + 1) * 21; omega⟩ rfl hl.1 rfl (Nat.le_of_ble_eq_true rfl) dX12_product_39 (fun S_1 v_2 H locs h hG => ?_)
  refine lv_istore_n (lv' := [(1, .int v_2), (0, .ref (a 0))]) hx hb dX12_product_42 rfl hl (by decide) rfl (fun ls hl => ?_)
  refine lv_aload_n hx hb dX12_product_43 rfl (lv_at hl 1 rfl) ?_
  refine lv_dup hx hb dX12_product_44 rfl ?_
  refine x_gi hM hG xfl_X12_189 xmt_0 (by decide) rfl h dX12_product_45 (fun v_3 h => ?_)
  refine lv_iconst (v := (1 : Int32)) hx hb dX12_product_48 (by decide) ?_
  refine x_iadd hM h dX12_product_49 (fun v_4 h => ?_)
  refine x_pi hM hG xfl_X12_189 xfp_X12_18 xmt_0 (by decide) rfl rfl rfl h dX12_product_50 (fun S_5 H locs h hG => ?_)
  refine lv_aload_n hx hb dX12_product_53 rfl (lv_at hl 1 rfl) ?_
  refine x_cVv (As := []) (rest := []) hM hG xml_X12_220 xwi_X12_operand xws_X12_operand xmt_0 (by decide) rfl h (fun S' v e => hg_X12_operand _ _ _ e _) ⟨by show _ ≤ 2 + (d + 1); omega, by show _ ≤ 44 + (d + 1) * 21; omega⟩ rfl hl.1 rfl (Nat.le_of_ble_eq_true rfl) dX12_product_54 (fun S_6 v_7 H locs h hG => ?_)
  refine lv_aload_n hx hb dX12_product_57 rfl (lv_at hl 1 rfl) ?_
  refine lv_iload_n hx hb dX12_product_58 rfl (lv_at hl 0 rfl) ?_
  refine lv_iconst (v := (0 : Int32)) hx hb dX12_product_59 (by decide) ?_
  refine x_cVv (As := [.int v_2, .int (0 : Int32)]) (rest := []) hM hG xml_X12_208 xwi_X12_addStep xws_X12_addStep xmt_0 (by decide) rfl h (fun S' v e => c_X12_addStep hM.2.2.2.2.2.2.1 e _) ⟨by show _ ≤ 2 + (d + 1); omega, by show _ ≤ 44 + (d + 1) * 21; omega⟩ rfl hl.1 rfl (Nat.le_of_ble_eq_true rfl) dX12_product_60 (fun S_8 v_9 H locs h hG => ?_)
  refine lv_goto (tgt := 4) hx hb dX12_product_63 (by decide) ?_
  exact k1 _ (Option.some.inj h).symm _ _ _ hG (lv_sub hl [1] rfl)
set_option maxHeartbeats 4000000 in
set_option maxRecDepth 100000 in
theorem w_X12_product_4 {d : Nat} {g_X12_both : xSt → Option (xSt × Unit)} {g_X12_compared : xSt → Option (xSt × Unit)} {g_X12_either : xSt → Option (xSt × Unit)} {g_X12_operand : xSt → Option (xSt × Unit)} {g_X12_product : xSt → Option (xSt × Unit)} {g_X12_sum : xSt → Option (xSt × Unit)} (hg_X12_both : ∀ (S : xSt) (S' : xSt) (v' : Unit), g_X12_both S = some (S', v') → ∀ sz : Nat, Met l yX12_both (Cond.code yX12_both cX12_both 1 none :: xTB) ({ frames := 2 + d, cells := 0, slots := 0, locals := 44 + d * 21 } : Room) (va_Pc [.ref (a 0)] (xPre D cy xmb a z S sz)) (xQv D cy xmb a S' v' sz) 0 0 (xA xmb a sz)) (hg_X12_compared : ∀ (S : xSt) (S' : xSt) (v' : Unit), g_X12_compared S = some (S', v') → ∀ sz : Nat, Met l yX12_compared (Cond.code yX12_compared cX12_compared 2 none :: xTB) ({ frames := 2 + d, cells := 0, slots := 0, locals := 44 + d * 21 } : Room) (va_Pc [.ref (a 0)] (xPre D cy xmb a z S sz)) (xQv D cy xmb a S' v' sz) 0 0 (xA xmb a sz)) (hg_X12_either : ∀ (S : xSt) (S' : xSt) (v' : Unit), g_X12_either S = some (S', v') → ∀ sz : Nat, Met l yX12_either (Cond.code yX12_either cX12_either 1 none :: xTB) ({ frames := 2 + d, cells := 0, slots := 0, locals := 44 + d * 21 } : Room) (va_Pc [.ref (a 0)] (xPre D cy xmb a z S sz)) (xQv D cy xmb a S' v' sz) 0 0 (xA xmb a sz)) (hg_X12_operand : ∀ (S : xSt) (S' : xSt) (v' : Unit), g_X12_operand S = some (S', v') → ∀ sz : Nat, Met l yX12_operand (Cond.code yX12_operand cX12_operand 2 none :: xTB) ({ frames := 2 + d, cells := 0, slots := 0, locals := 44 + d * 21 } : Room) (va_Pc [.ref (a 0)] (xPre D cy xmb a z S sz)) (xQv D cy xmb a S' v' sz) 0 0 (xA xmb a sz)) (hg_X12_product : ∀ (S : xSt) (S' : xSt) (v' : Unit), g_X12_product S = some (S', v') → ∀ sz : Nat, Met l yX12_product (Cond.code yX12_product cX12_product 2 none :: xTB) ({ frames := 2 + d, cells := 0, slots := 0, locals := 44 + d * 21 } : Room) (va_Pc [.ref (a 0)] (xPre D cy xmb a z S sz)) (xQv D cy xmb a S' v' sz) 0 0 (xA xmb a sz)) (hg_X12_sum : ∀ (S : xSt) (S' : xSt) (v' : Unit), g_X12_sum S = some (S', v') → ∀ sz : Nat, Met l yX12_sum (Cond.code yX12_sum cX12_sum 2 none :: xTB) ({ frames := 2 + d, cells := 0, slots := 0, locals := 44 + d * 21 } : Room) (va_Pc [.ref (a 0)] (xPre D cy xmb a z S sz)) (xQv D cy xmb a S' v' sz) 0 0 (xA xmb a sz)) (hM : xM p c cX12_product m s args RX12 2 D cy xmb a z) (hr : meth.sig.returnType = none) (hlk : meth.locks = false) {S' : xSt} {v' : Unit} {S : xSt} {q : (xSt ⊕ (xSt × Unit))} (h : f_X12_product_4 g_X12_both g_X12_compared g_X12_either g_X12_operand g_X12_product g_X12_sum S = some q) (k0 : ∀ t0 : xSt × Unit, q = (.inr t0) → t0 = (S', v')) (k1 : ∀ (S : xSt) , q = (.inl S) → ∀ (H : Heap) (locs : List Loc) (ls : Array Slot), xG D cy xmb a S s H locs → lv_has ls 2 [(0, .ref (a 0))] → W p l e ({ frames := 2 + (d + 1), cells := 0, slots := 0, locals := 44 + (d + 1) * 21 } : Room) s m args below meth c H locs 0 0 (MQ below (xQv D cy xmb a S' v' s.heap.size) args s 0 0 (xA xmb a s.heap.size)) (F0 m 4 ls [])) {H : Heap} {locs : List Loc} (hG : xG D cy xmb a S s H locs) {ls : Array Slot} (hl : lv_has ls 2 [(0, .ref (a 0))]) : W p l e ({ frames := 2 + (d + 1), cells := 0, slots := 0, locals := 44 + (d + 1) * 21 } : Room) s m args below meth c H locs 0 0 (MQ below (xQv D cy xmb a S' v' s.heap.size) args s 0 0 (xA xmb a s.heap.size)) (F0 m 4 ls []) := by
  have hx := hM.1
  have hb := hM.2.1
  refine lv_aload_n hx hb dX12_product_4 rfl (lv_at hl 0 rfl) ?_
  refine x_gi hM hG xfl_X12_192 xmt_0 (by decide) rfl h dX12_product_5 (fun v_1 h => ?_)
  refine x_if_ge (tgt := 66) hM h dX12_product_8 (by decide) (fun c_2 h => ?_) (fun c_2 h => ?_)
  · exact x_rv hM hG hr hlk (k0 _ (Option.some.inj h).symm) dX12_product_66
  · refine lv_aload_n hx hb dX12_product_11 rfl (lv_at hl 0 rfl) ?_
    refine x_cVi (As := []) (rest := []) hM hG xml_X12_204 xwi_X12_look xws_X12_look xmt_0 (by decide) rfl h (fun S' v e => c_X12_look hM.2.2.2.2.2.2.1 e _) ⟨by show _ ≤ 2 + (d + 1); omega, by show _ ≤ 44 + (d + 1) * 21; omega⟩ rfl hl.1 rfl (Nat.le_of_ble_eq_true rfl) dX12_product_12 (fun S_3 v_4 H locs h hG => ?_)
    refine lv_bipush (v := (42 : Int32)) hx hb dX12_product_15 (by decide) ?_
    refine x_icmp_eq (tgt := 38) hM h dX12_product_17 (by decide) (fun c_5 h => ?_) (fun c_5 h => ?_)
    · exact w_X12_product_38 hg_X12_both hg_X12_compared hg_X12_either hg_X12_operand hg_X12_product hg_X12_sum hM hr hlk h (fun t0 e => k0 t0 e) (fun S e => k1 S e) hG (lv_sub hl [0] rfl)
    · refine lv_aload_n hx hb dX12_product_20 rfl (lv_at hl 0 rfl) ?_
      refine x_cVi (As := []) (rest := []) hM hG xml_X12_204 xwi_X12_look xws_X12_look xmt_0 (by decide) rfl h (fun S' v e => c_X12_look hM.2.2.2.2.2.2.1 e _) ⟨by show _ ≤ 2 + (d + 1); omega, by show _ ≤ 44 + (d + 1) * 21; omega⟩ rfl hl.1 rfl (Nat.le_of_ble_eq_true rfl) dX12_product_21 (fun S_6 v_7 H locs h hG => ?_)
      refine lv_bipush (v := (47 : Int32)) hx hb dX12_product_24 (by decide) ?_
      refine x_icmp_eq (tgt := 38) hM h dX12_product_26 (by decide) (fun c_8 h => ?_) (fun c_8 h => ?_)
      · exact w_X12_product_38 hg_X12_both hg_X12_compared hg_X12_either hg_X12_operand hg_X12_product hg_X12_sum hM hr hlk h (fun t0 e => k0 t0 e) (fun S e => k1 S e) hG (lv_sub hl [0] rfl)
      · refine lv_aload_n hx hb dX12_product_29 rfl (lv_at hl 0 rfl) ?_
        refine x_cVi (As := []) (rest := []) hM hG xml_X12_204 xwi_X12_look xws_X12_look xmt_0 (by decide) rfl h (fun S' v e => c_X12_look hM.2.2.2.2.2.2.1 e _) ⟨by show _ ≤ 2 + (d + 1); omega, by show _ ≤ 44 + (d + 1) * 21; omega⟩ rfl hl.1 rfl (Nat.le_of_ble_eq_true rfl) dX12_product_30 (fun S_9 v_10 H locs h hG => ?_)
        refine lv_bipush (v := (37 : Int32)) hx hb dX12_product_33 (by decide) ?_
        refine x_icmp_ne (tgt := 66) hM h dX12_product_35 (by decide) (fun c_11 h => ?_) (fun c_11 h => ?_)
        · exact x_rv hM hG hr hlk (k0 _ (Option.some.inj h).symm) dX12_product_66
        · exact w_X12_product_38 hg_X12_both hg_X12_compared hg_X12_either hg_X12_operand hg_X12_product hg_X12_sum hM hr hlk h (fun t0 e => k0 t0 e) (fun S e => k1 S e) hG (lv_sub hl [0] rfl)
theorem wl_X12_product_4 {d : Nat} {g_X12_both : xSt → Option (xSt × Unit)} {g_X12_compared : xSt → Option (xSt × Unit)} {g_X12_either : xSt → Option (xSt × Unit)} {g_X12_operand : xSt → Option (xSt × Unit)} {g_X12_product : xSt → Option (xSt × Unit)} {g_X12_sum : xSt → Option (xSt × Unit)} (hg_X12_both : ∀ (S : xSt) (S' : xSt) (v' : Unit), g_X12_both S = some (S', v') → ∀ sz : Nat, Met l yX12_both (Cond.code yX12_both cX12_both 1 none :: xTB) ({ frames := 2 + d, cells := 0, slots := 0, locals := 44 + d * 21 } : Room) (va_Pc [.ref (a 0)] (xPre D cy xmb a z S sz)) (xQv D cy xmb a S' v' sz) 0 0 (xA xmb a sz)) (hg_X12_compared : ∀ (S : xSt) (S' : xSt) (v' : Unit), g_X12_compared S = some (S', v') → ∀ sz : Nat, Met l yX12_compared (Cond.code yX12_compared cX12_compared 2 none :: xTB) ({ frames := 2 + d, cells := 0, slots := 0, locals := 44 + d * 21 } : Room) (va_Pc [.ref (a 0)] (xPre D cy xmb a z S sz)) (xQv D cy xmb a S' v' sz) 0 0 (xA xmb a sz)) (hg_X12_either : ∀ (S : xSt) (S' : xSt) (v' : Unit), g_X12_either S = some (S', v') → ∀ sz : Nat, Met l yX12_either (Cond.code yX12_either cX12_either 1 none :: xTB) ({ frames := 2 + d, cells := 0, slots := 0, locals := 44 + d * 21 } : Room) (va_Pc [.ref (a 0)] (xPre D cy xmb a z S sz)) (xQv D cy xmb a S' v' sz) 0 0 (xA xmb a sz)) (hg_X12_operand : ∀ (S : xSt) (S' : xSt) (v' : Unit), g_X12_operand S = some (S', v') → ∀ sz : Nat, Met l yX12_operand (Cond.code yX12_operand cX12_operand 2 none :: xTB) ({ frames := 2 + d, cells := 0, slots := 0, locals := 44 + d * 21 } : Room) (va_Pc [.ref (a 0)] (xPre D cy xmb a z S sz)) (xQv D cy xmb a S' v' sz) 0 0 (xA xmb a sz)) (hg_X12_product : ∀ (S : xSt) (S' : xSt) (v' : Unit), g_X12_product S = some (S', v') → ∀ sz : Nat, Met l yX12_product (Cond.code yX12_product cX12_product 2 none :: xTB) ({ frames := 2 + d, cells := 0, slots := 0, locals := 44 + d * 21 } : Room) (va_Pc [.ref (a 0)] (xPre D cy xmb a z S sz)) (xQv D cy xmb a S' v' sz) 0 0 (xA xmb a sz)) (hg_X12_sum : ∀ (S : xSt) (S' : xSt) (v' : Unit), g_X12_sum S = some (S', v') → ∀ sz : Nat, Met l yX12_sum (Cond.code yX12_sum cX12_sum 2 none :: xTB) ({ frames := 2 + d, cells := 0, slots := 0, locals := 44 + d * 21 } : Room) (va_Pc [.ref (a 0)] (xPre D cy xmb a z S sz)) (xQv D cy xmb a S' v' sz) 0 0 (xA xmb a sz)) (hM : xM p c cX12_product m s args RX12 2 D cy xmb a z) (hr : meth.sig.returnType = none) (hlk : meth.locks = false) {S' : xSt} {v' : Unit} {q : (xSt × Unit)} (k0 : ∀ t0 : xSt × Unit, q = t0 → t0 = (S', v')) (n : Nat) : ∀ (S : xSt)  (H : Heap) (locs : List Loc) (ls : Array Slot), xlp (fun q : xSt => f_X12_product_4 g_X12_both g_X12_compared g_X12_either g_X12_operand g_X12_product g_X12_sum q) n S = some q → xG D cy xmb a S s H locs → lv_has ls 2 [(0, .ref (a 0))] → W p l e ({ frames := 2 + (d + 1), cells := 0, slots := 0, locals := 44 + (d + 1) * 21 } : Room) s m args below meth c H locs 0 0 (MQ below (xQv D cy xmb a S' v' s.heap.size) args s 0 0 (xA xmb a s.heap.size)) (F0 m 4 ls []) := by
  induction n with
  | zero => intro S H locs ls h; exact (xlp_0 h).elim
  | succ n ih =>
    intro S H locs ls h hG hl
    obtain ⟨q1, hq, hc, he⟩ := xlp_at h
    exact w_X12_product_4 hg_X12_both hg_X12_compared hg_X12_either hg_X12_operand hg_X12_product hg_X12_sum hM hr hlk (q := q1) hq (fun t0 e => k0 t0 (he _ e).symm) (fun S e H locs ls hG hl => ih S H locs ls (hc _ e) hG hl) hG hl
set_option maxHeartbeats 4000000 in
set_option maxRecDepth 100000 in
theorem w_X12_product_0 {d : Nat} {g_X12_both : xSt → Option (xSt × Unit)} {g_X12_compared : xSt → Option (xSt × Unit)} {g_X12_either : xSt → Option (xSt × Unit)} {g_X12_operand : xSt → Option (xSt × Unit)} {g_X12_product : xSt → Option (xSt × Unit)} {g_X12_sum : xSt → Option (xSt × Unit)} (hg_X12_both : ∀ (S : xSt) (S' : xSt) (v' : Unit), g_X12_both S = some (S', v') → ∀ sz : Nat, Met l yX12_both (Cond.code yX12_both cX12_both 1 none :: xTB) ({ frames := 2 + d, cells := 0, slots := 0, locals := 44 + d * 21 } : Room) (va_Pc [.ref (a 0)] (xPre D cy xmb a z S sz)) (xQv D cy xmb a S' v' sz) 0 0 (xA xmb a sz)) (hg_X12_compared : ∀ (S : xSt) (S' : xSt) (v' : Unit), g_X12_compared S = some (S', v') → ∀ sz : Nat, Met l yX12_compared (Cond.code yX12_compared cX12_compared 2 none :: xTB) ({ frames := 2 + d, cells := 0, slots := 0, locals := 44 + d * 21 } : Room) (va_Pc [.ref (a 0)] (xPre D cy xmb a z S sz)) (xQv D cy xmb a S' v' sz) 0 0 (xA xmb a sz)) (hg_X12_either : ∀ (S : xSt) (S' : xSt) (v' : Unit), g_X12_either S = some (S', v') → ∀ sz : Nat, Met l yX12_either (Cond.code yX12_either cX12_either 1 none :: xTB) ({ frames := 2 + d, cells := 0, slots := 0, locals := 44 + d * 21 } : Room) (va_Pc [.ref (a 0)] (xPre D cy xmb a z S sz)) (xQv D cy xmb a S' v' sz) 0 0 (xA xmb a sz)) (hg_X12_operand : ∀ (S : xSt) (S' : xSt) (v' : Unit), g_X12_operand S = some (S', v') → ∀ sz : Nat, Met l yX12_operand (Cond.code yX12_operand cX12_operand 2 none :: xTB) ({ frames := 2 + d, cells := 0, slots := 0, locals := 44 + d * 21 } : Room) (va_Pc [.ref (a 0)] (xPre D cy xmb a z S sz)) (xQv D cy xmb a S' v' sz) 0 0 (xA xmb a sz)) (hg_X12_product : ∀ (S : xSt) (S' : xSt) (v' : Unit), g_X12_product S = some (S', v') → ∀ sz : Nat, Met l yX12_product (Cond.code yX12_product cX12_product 2 none :: xTB) ({ frames := 2 + d, cells := 0, slots := 0, locals := 44 + d * 21 } : Room) (va_Pc [.ref (a 0)] (xPre D cy xmb a z S sz)) (xQv D cy xmb a S' v' sz) 0 0 (xA xmb a sz)) (hg_X12_sum : ∀ (S : xSt) (S' : xSt) (v' : Unit), g_X12_sum S = some (S', v') → ∀ sz : Nat, Met l yX12_sum (Cond.code yX12_sum cX12_sum 2 none :: xTB) ({ frames := 2 + d, cells := 0, slots := 0, locals := 44 + d * 21 } : Room) (va_Pc [.ref (a 0)] (xPre D cy xmb a z S sz)) (xQv D cy xmb a S' v' sz) 0 0 (xA xmb a sz)) (hM : xM p c cX12_product m s args RX12 2 D cy xmb a z) (hr : meth.sig.returnType = none) (hlk : meth.locks = false) {S' : xSt} {v' : Unit} {S : xSt} {q : (xSt × Unit)} (h : f_X12_product_0 g_X12_both g_X12_compared g_X12_either g_X12_operand g_X12_product g_X12_sum S = some q) (k0 : ∀ t0 : xSt × Unit, q = t0 → t0 = (S', v')) {H : Heap} {locs : List Loc} (hG : xG D cy xmb a S s H locs) {ls : Array Slot} (hl : lv_has ls 2 [(0, .ref (a 0))]) : W p l e ({ frames := 2 + (d + 1), cells := 0, slots := 0, locals := 44 + (d + 1) * 21 } : Room) s m args below meth c H locs 0 0 (MQ below (xQv D cy xmb a S' v' s.heap.size) args s 0 0 (xA xmb a s.heap.size)) (F0 m 0 ls []) := by
  have hx := hM.1
  have hb := hM.2.1
  refine lv_aload_n hx hb dX12_product_0 rfl (lv_at hl 0 rfl) ?_
  refine x_cVv (As := []) (rest := []) hM hG xml_X12_220 xwi_X12_operand xws_X12_operand xmt_0 (by decide) rfl h (fun S' v e => hg_X12_operand _ _ _ e _) ⟨by show _ ≤ 2 + (d + 1); omega, by show _ ≤ 44 + (d + 1) * 21; omega⟩ rfl hl.1 rfl (Nat.le_of_ble_eq_true rfl) dX12_product_1 (fun S_1 v_2 H locs h hG => ?_)
  exact wl_X12_product_4 hg_X12_both hg_X12_compared hg_X12_either hg_X12_operand hg_X12_product hg_X12_sum hM hr hlk (fun t0 e => k0 t0 e) 5000 _ _ _ _ h hG (lv_sub hl [0] rfl)
set_option maxHeartbeats 4000000 in
set_option maxRecDepth 100000 in
theorem w_X12_sum_29 {d : Nat} {g_X12_both : xSt → Option (xSt × Unit)} {g_X12_compared : xSt → Option (xSt × Unit)} {g_X12_either : xSt → Option (xSt × Unit)} {g_X12_operand : xSt → Option (xSt × Unit)} {g_X12_product : xSt → Option (xSt × Unit)} {g_X12_sum : xSt → Option (xSt × Unit)} (hg_X12_both : ∀ (S : xSt) (S' : xSt) (v' : Unit), g_X12_both S = some (S', v') → ∀ sz : Nat, Met l yX12_both (Cond.code yX12_both cX12_both 1 none :: xTB) ({ frames := 2 + d, cells := 0, slots := 0, locals := 44 + d * 21 } : Room) (va_Pc [.ref (a 0)] (xPre D cy xmb a z S sz)) (xQv D cy xmb a S' v' sz) 0 0 (xA xmb a sz)) (hg_X12_compared : ∀ (S : xSt) (S' : xSt) (v' : Unit), g_X12_compared S = some (S', v') → ∀ sz : Nat, Met l yX12_compared (Cond.code yX12_compared cX12_compared 2 none :: xTB) ({ frames := 2 + d, cells := 0, slots := 0, locals := 44 + d * 21 } : Room) (va_Pc [.ref (a 0)] (xPre D cy xmb a z S sz)) (xQv D cy xmb a S' v' sz) 0 0 (xA xmb a sz)) (hg_X12_either : ∀ (S : xSt) (S' : xSt) (v' : Unit), g_X12_either S = some (S', v') → ∀ sz : Nat, Met l yX12_either (Cond.code yX12_either cX12_either 1 none :: xTB) ({ frames := 2 + d, cells := 0, slots := 0, locals := 44 + d * 21 } : Room) (va_Pc [.ref (a 0)] (xPre D cy xmb a z S sz)) (xQv D cy xmb a S' v' sz) 0 0 (xA xmb a sz)) (hg_X12_operand : ∀ (S : xSt) (S' : xSt) (v' : Unit), g_X12_operand S = some (S', v') → ∀ sz : Nat, Met l yX12_operand (Cond.code yX12_operand cX12_operand 2 none :: xTB) ({ frames := 2 + d, cells := 0, slots := 0, locals := 44 + d * 21 } : Room) (va_Pc [.ref (a 0)] (xPre D cy xmb a z S sz)) (xQv D cy xmb a S' v' sz) 0 0 (xA xmb a sz)) (hg_X12_product : ∀ (S : xSt) (S' : xSt) (v' : Unit), g_X12_product S = some (S', v') → ∀ sz : Nat, Met l yX12_product (Cond.code yX12_product cX12_product 2 none :: xTB) ({ frames := 2 + d, cells := 0, slots := 0, locals := 44 + d * 21 } : Room) (va_Pc [.ref (a 0)] (xPre D cy xmb a z S sz)) (xQv D cy xmb a S' v' sz) 0 0 (xA xmb a sz)) (hg_X12_sum : ∀ (S : xSt) (S' : xSt) (v' : Unit), g_X12_sum S = some (S', v') → ∀ sz : Nat, Met l yX12_sum (Cond.code yX12_sum cX12_sum 2 none :: xTB) ({ frames := 2 + d, cells := 0, slots := 0, locals := 44 + d * 21 } : Room) (va_Pc [.ref (a 0)] (xPre D cy xmb a z S sz)) (xQv D cy xmb a S' v' sz) 0 0 (xA xmb a sz)) (hM : xM p c cX12_sum m s args RX12 2 D cy xmb a z) (hr : meth.sig.returnType = none) (hlk : meth.locks = false) {S' : xSt} {v' : Unit} {S : xSt} {q : (xSt ⊕ (xSt × Unit))} (h : f_X12_sum_29 g_X12_both g_X12_compared g_X12_either g_X12_operand g_X12_product g_X12_sum S = some q) (k0 : ∀ t0 : xSt × Unit, q = (.inr t0) → t0 = (S', v')) (k1 : ∀ (S : xSt) , q = (.inl S) → ∀ (H : Heap) (locs : List Loc) (ls : Array Slot), xG D cy xmb a S s H locs → lv_has ls 2 [(0, .ref (a 0))] → W p l e ({ frames := 2 + (d + 1), cells := 0, slots := 0, locals := 44 + (d + 1) * 21 } : Room) s m args below meth c H locs 0 0 (MQ below (xQv D cy xmb a S' v' s.heap.size) args s 0 0 (xA xmb a s.heap.size)) (F0 m 4 ls [])) {H : Heap} {locs : List Loc} (hG : xG D cy xmb a S s H locs) {ls : Array Slot} (hl : lv_has ls 2 [(0, .ref (a 0))]) : W p l e ({ frames := 2 + (d + 1), cells := 0, slots := 0, locals := 44 + (d + 1) * 21 } : Room) s m args below meth c H locs 0 0 (MQ below (xQv D cy xmb a S' v' s.heap.size) args s 0 0 (xA xmb a s.heap.size)) (F0 m 29 ls []) := by
  have hx := hM.1
  have hb := hM.2.1
  refine lv_aload_n hx hb dX12_sum_29 rfl (lv_at hl 0 rfl) ?_
  refine x_cVi (As := []) (rest := []) hM hG xml_X12_204 xwi_X12_look xws_X12_look xmt_0 (by decide) rfl h (fun S' v e => c_X12_look hM.2.2.2.2.2.2.1 e _) ⟨by show _ ≤ 2 + (d + 1); omega, by show _ ≤ 44 + (d + 1) * 21; omega⟩ rfl hl.1 rfl (Nat.le_of_ble_eq_true rfl) dX12_sum_30 (fun S_1 v_2 H locs h hG => ?_)
  refine lv_istore_n (lv' := [(1, .int v_2), (0, .ref (a 0))]) hx hb dX12_sum_33 rfl hl (by decide) rfl (fun ls hl => ?_)
  refine lv_aload_n hx hb dX12_sum_34 rfl (lv_at hl 1 rfl) ?_
  refine lv_dup hx hb dX12_sum_35 rfl ?_
  refine x_gi hM hG xfl_X12_189 xmt_0 (by decide) rfl h dX12_sum_36 (fun v_3 h => ?_)
  refine lv_iconst (v := (1 : Int32)) hx hb dX12_sum_39 (by decide) ?_
  refine x_iadd hM h dX12_sum_40 (fun v_4 h => ?_)
  refine x_pi hM hG xfl_X12_189 xfp_X12_18 xmt_0 (by decide) rfl rfl rfl h dX12_sum_41 (fun S_5 H locs h hG => ?_)
  refine lv_aload_n hx hb dX12_sum_44 rfl (lv_at hl 1 rfl) ?_
  refine x_cVv (As := []) (rest := []) hM hG xml_X12_229 xwi_X12_product xws_X12_product xmt_0 (by decide) rfl h (fun S' v e => hg_X12_product _ _ _ e _) ⟨by show _ ≤ 2 + (d + 1); omega, by show _ ≤ 44 + (d + 1) * 21; omega⟩ rfl hl.1 rfl (Nat.le_of_ble_eq_true rfl) dX12_sum_45 (fun S_6 v_7 H locs h hG => ?_)
  refine lv_aload_n hx hb dX12_sum_48 rfl (lv_at hl 1 rfl) ?_
  refine lv_iload_n hx hb dX12_sum_49 rfl (lv_at hl 0 rfl) ?_
  refine lv_iconst (v := (0 : Int32)) hx hb dX12_sum_50 (by decide) ?_
  refine x_cVv (As := [.int v_2, .int (0 : Int32)]) (rest := []) hM hG xml_X12_208 xwi_X12_addStep xws_X12_addStep xmt_0 (by decide) rfl h (fun S' v e => c_X12_addStep hM.2.2.2.2.2.2.1 e _) ⟨by show _ ≤ 2 + (d + 1); omega, by show _ ≤ 44 + (d + 1) * 21; omega⟩ rfl hl.1 rfl (Nat.le_of_ble_eq_true rfl) dX12_sum_51 (fun S_8 v_9 H locs h hG => ?_)
  refine lv_goto (tgt := 4) hx hb dX12_sum_54 (by decide) ?_
  exact k1 _ (Option.some.inj h).symm _ _ _ hG (lv_sub hl [1] rfl)
set_option maxHeartbeats 4000000 in
set_option maxRecDepth 100000 in
theorem w_X12_sum_4 {d : Nat} {g_X12_both : xSt → Option (xSt × Unit)} {g_X12_compared : xSt → Option (xSt × Unit)} {g_X12_either : xSt → Option (xSt × Unit)} {g_X12_operand : xSt → Option (xSt × Unit)} {g_X12_product : xSt → Option (xSt × Unit)} {g_X12_sum : xSt → Option (xSt × Unit)} (hg_X12_both : ∀ (S : xSt) (S' : xSt) (v' : Unit), g_X12_both S = some (S', v') → ∀ sz : Nat, Met l yX12_both (Cond.code yX12_both cX12_both 1 none :: xTB) ({ frames := 2 + d, cells := 0, slots := 0, locals := 44 + d * 21 } : Room) (va_Pc [.ref (a 0)] (xPre D cy xmb a z S sz)) (xQv D cy xmb a S' v' sz) 0 0 (xA xmb a sz)) (hg_X12_compared : ∀ (S : xSt) (S' : xSt) (v' : Unit), g_X12_compared S = some (S', v') → ∀ sz : Nat, Met l yX12_compared (Cond.code yX12_compared cX12_compared 2 none :: xTB) ({ frames := 2 + d, cells := 0, slots := 0, locals := 44 + d * 21 } : Room) (va_Pc [.ref (a 0)] (xPre D cy xmb a z S sz)) (xQv D cy xmb a S' v' sz) 0 0 (xA xmb a sz)) (hg_X12_either : ∀ (S : xSt) (S' : xSt) (v' : Unit), g_X12_either S = some (S', v') → ∀ sz : Nat, Met l yX12_either (Cond.code yX12_either cX12_either 1 none :: xTB) ({ frames := 2 + d, cells := 0, slots := 0, locals := 44 + d * 21 } : Room) (va_Pc [.ref (a 0)] (xPre D cy xmb a z S sz)) (xQv D cy xmb a S' v' sz) 0 0 (xA xmb a sz)) (hg_X12_operand : ∀ (S : xSt) (S' : xSt) (v' : Unit), g_X12_operand S = some (S', v') → ∀ sz : Nat, Met l yX12_operand (Cond.code yX12_operand cX12_operand 2 none :: xTB) ({ frames := 2 + d, cells := 0, slots := 0, locals := 44 + d * 21 } : Room) (va_Pc [.ref (a 0)] (xPre D cy xmb a z S sz)) (xQv D cy xmb a S' v' sz) 0 0 (xA xmb a sz)) (hg_X12_product : ∀ (S : xSt) (S' : xSt) (v' : Unit), g_X12_product S = some (S', v') → ∀ sz : Nat, Met l yX12_product (Cond.code yX12_product cX12_product 2 none :: xTB) ({ frames := 2 + d, cells := 0, slots := 0, locals := 44 + d * 21 } : Room) (va_Pc [.ref (a 0)] (xPre D cy xmb a z S sz)) (xQv D cy xmb a S' v' sz) 0 0 (xA xmb a sz)) (hg_X12_sum : ∀ (S : xSt) (S' : xSt) (v' : Unit), g_X12_sum S = some (S', v') → ∀ sz : Nat, Met l yX12_sum (Cond.code yX12_sum cX12_sum 2 none :: xTB) ({ frames := 2 + d, cells := 0, slots := 0, locals := 44 + d * 21 } : Room) (va_Pc [.ref (a 0)] (xPre D cy xmb a z S sz)) (xQv D cy xmb a S' v' sz) 0 0 (xA xmb a sz)) (hM : xM p c cX12_sum m s args RX12 2 D cy xmb a z) (hr : meth.sig.returnType = none) (hlk : meth.locks = false) {S' : xSt} {v' : Unit} {S : xSt} {q : (xSt ⊕ (xSt × Unit))} (h : f_X12_sum_4 g_X12_both g_X12_compared g_X12_either g_X12_operand g_X12_product g_X12_sum S = some q) (k0 : ∀ t0 : xSt × Unit, q = (.inr t0) → t0 = (S', v')) (k1 : ∀ (S : xSt) , q = (.inl S) → ∀ (H : Heap) (locs : List Loc) (ls : Array Slot), xG D cy xmb a S s H locs → lv_has ls 2 [(0, .ref (a 0))] → W p l e ({ frames := 2 + (d + 1), cells := 0, slots := 0, locals := 44 + (d + 1) * 21 } : Room) s m args below meth c H locs 0 0 (MQ below (xQv D cy xmb a S' v' s.heap.size) args s 0 0 (xA xmb a s.heap.size)) (F0 m 4 ls [])) {H : Heap} {locs : List Loc} (hG : xG D cy xmb a S s H locs) {ls : Array Slot} (hl : lv_has ls 2 [(0, .ref (a 0))]) : W p l e ({ frames := 2 + (d + 1), cells := 0, slots := 0, locals := 44 + (d + 1) * 21 } : Room) s m args below meth c H locs 0 0 (MQ below (xQv D cy xmb a S' v' s.heap.size) args s 0 0 (xA xmb a s.heap.size)) (F0 m 4 ls []) := by
  have hx := hM.1
  have hb := hM.2.1
  refine lv_aload_n hx hb dX12_sum_4 rfl (lv_at hl 0 rfl) ?_
  refine x_gi hM hG xfl_X12_192 xmt_0 (by decide) rfl h dX12_sum_5 (fun v_1 h => ?_)
  refine x_if_ge (tgt := 57) hM h dX12_sum_8 (by decide) (fun c_2 h => ?_) (fun c_2 h => ?_)
  · exact x_rv hM hG hr hlk (k0 _ (Option.some.inj h).symm) dX12_sum_57
  · refine lv_aload_n hx hb dX12_sum_11 rfl (lv_at hl 0 rfl) ?_
    refine x_cVi (As := []) (rest := []) hM hG xml_X12_204 xwi_X12_look xws_X12_look xmt_0 (by decide) rfl h (fun S' v e => c_X12_look hM.2.2.2.2.2.2.1 e _) ⟨by show _ ≤ 2 + (d + 1); omega, by show _ ≤ 44 + (d + 1) * 21; omega⟩ rfl hl.1 rfl (Nat.le_of_ble_eq_true rfl) dX12_sum_12 (fun S_3 v_4 H locs h hG => ?_)
    refine lv_bipush (v := (43 : Int32)) hx hb dX12_sum_15 (by decide) ?_
    refine x_icmp_eq (tgt := 29) hM h dX12_sum_17 (by decide) (fun c_5 h => ?_) (fun c_5 h => ?_)
    · exact w_X12_sum_29 hg_X12_both hg_X12_compared hg_X12_either hg_X12_operand hg_X12_product hg_X12_sum hM hr hlk h (fun t0 e => k0 t0 e) (fun S e => k1 S e) hG (lv_sub hl [0] rfl)
    · refine lv_aload_n hx hb dX12_sum_20 rfl (lv_at hl 0 rfl) ?_
      refine x_cVi (As := []) (rest := []) hM hG xml_X12_204 xwi_X12_look xws_X12_look xmt_0 (by decide) rfl h (fun S' v e => c_X12_look hM.2.2.2.2.2.2.1 e _) ⟨by show _ ≤ 2 + (d + 1); omega, by show _ ≤ 44 + (d + 1) * 21; omega⟩ rfl hl.1 rfl (Nat.le_of_ble_eq_true rfl) dX12_sum_21 (fun S_6 v_7 H locs h hG => ?_)
      refine lv_bipush (v := (45 : Int32)) hx hb dX12_sum_24 (by decide) ?_
      refine x_icmp_ne (tgt := 57) hM h dX12_sum_26 (by decide) (fun c_8 h => ?_) (fun c_8 h => ?_)
      · exact x_rv hM hG hr hlk (k0 _ (Option.some.inj h).symm) dX12_sum_57
      · exact w_X12_sum_29 hg_X12_both hg_X12_compared hg_X12_either hg_X12_operand hg_X12_product hg_X12_sum hM hr hlk h (fun t0 e => k0 t0 e) (fun S e => k1 S e) hG (lv_sub hl [0] rfl)
theorem wl_X12_sum_4 {d : Nat} {g_X12_both : xSt → Option (xSt × Unit)} {g_X12_compared : xSt → Option (xSt × Unit)} {g_X12_either : xSt → Option (xSt × Unit)} {g_X12_operand : xSt → Option (xSt × Unit)} {g_X12_product : xSt → Option (xSt × Unit)} {g_X12_sum : xSt → Option (xSt × Unit)} (hg_X12_both : ∀ (S : xSt) (S' : xSt) (v' : Unit), g_X12_both S = some (S', v') → ∀ sz : Nat, Met l yX12_both (Cond.code yX12_both cX12_both 1 none :: xTB) ({ frames := 2 + d, cells := 0, slots := 0, locals := 44 + d * 21 } : Room) (va_Pc [.ref (a 0)] (xPre D cy xmb a z S sz)) (xQv D cy xmb a S' v' sz) 0 0 (xA xmb a sz)) (hg_X12_compared : ∀ (S : xSt) (S' : xSt) (v' : Unit), g_X12_compared S = some (S', v') → ∀ sz : Nat, Met l yX12_compared (Cond.code yX12_compared cX12_compared 2 none :: xTB) ({ frames := 2 + d, cells := 0, slots := 0, locals := 44 + d * 21 } : Room) (va_Pc [.ref (a 0)] (xPre D cy xmb a z S sz)) (xQv D cy xmb a S' v' sz) 0 0 (xA xmb a sz)) (hg_X12_either : ∀ (S : xSt) (S' : xSt) (v' : Unit), g_X12_either S = some (S', v') → ∀ sz : Nat, Met l yX12_either (Cond.code yX12_either cX12_either 1 none :: xTB) ({ frames := 2 + d, cells := 0, slots := 0, locals := 44 + d * 21 } : Room) (va_Pc [.ref (a 0)] (xPre D cy xmb a z S sz)) (xQv D cy xmb a S' v' sz) 0 0 (xA xmb a sz)) (hg_X12_operand : ∀ (S : xSt) (S' : xSt) (v' : Unit), g_X12_operand S = some (S', v') → ∀ sz : Nat, Met l yX12_operand (Cond.code yX12_operand cX12_operand 2 none :: xTB) ({ frames := 2 + d, cells := 0, slots := 0, locals := 44 + d * 21 } : Room) (va_Pc [.ref (a 0)] (xPre D cy xmb a z S sz)) (xQv D cy xmb a S' v' sz) 0 0 (xA xmb a sz)) (hg_X12_product : ∀ (S : xSt) (S' : xSt) (v' : Unit), g_X12_product S = some (S', v') → ∀ sz : Nat, Met l yX12_product (Cond.code yX12_product cX12_product 2 none :: xTB) ({ frames := 2 + d, cells := 0, slots := 0, locals := 44 + d * 21 } : Room) (va_Pc [.ref (a 0)] (xPre D cy xmb a z S sz)) (xQv D cy xmb a S' v' sz) 0 0 (xA xmb a sz)) (hg_X12_sum : ∀ (S : xSt) (S' : xSt) (v' : Unit), g_X12_sum S = some (S', v') → ∀ sz : Nat, Met l yX12_sum (Cond.code yX12_sum cX12_sum 2 none :: xTB) ({ frames := 2 + d, cells := 0, slots := 0, locals := 44 + d * 21 } : Room) (va_Pc [.ref (a 0)] (xPre D cy xmb a z S sz)) (xQv D cy xmb a S' v' sz) 0 0 (xA xmb a sz)) (hM : xM p c cX12_sum m s args RX12 2 D cy xmb a z) (hr : meth.sig.returnType = none) (hlk : meth.locks = false) {S' : xSt} {v' : Unit} {q : (xSt × Unit)} (k0 : ∀ t0 : xSt × Unit, q = t0 → t0 = (S', v')) (n : Nat) : ∀ (S : xSt)  (H : Heap) (locs : List Loc) (ls : Array Slot), xlp (fun q : xSt => f_X12_sum_4 g_X12_both g_X12_compared g_X12_either g_X12_operand g_X12_product g_X12_sum q) n S = some q → xG D cy xmb a S s H locs → lv_has ls 2 [(0, .ref (a 0))] → W p l e ({ frames := 2 + (d + 1), cells := 0, slots := 0, locals := 44 + (d + 1) * 21 } : Room) s m args below meth c H locs 0 0 (MQ below (xQv D cy xmb a S' v' s.heap.size) args s 0 0 (xA xmb a s.heap.size)) (F0 m 4 ls []) := by
  induction n with
  | zero => intro S H locs ls h; exact (xlp_0 h).elim
  | succ n ih =>
    intro S H locs ls h hG hl
    obtain ⟨q1, hq, hc, he⟩ := xlp_at h
    exact w_X12_sum_4 hg_X12_both hg_X12_compared hg_X12_either hg_X12_operand hg_X12_product hg_X12_sum hM hr hlk (q := q1) hq (fun t0 e => k0 t0 (he _ e).symm) (fun S e H locs ls hG hl => ih S H locs ls (hc _ e) hG hl) hG hl
set_option maxHeartbeats 4000000 in
set_option maxRecDepth 100000 in
theorem w_X12_sum_0 {d : Nat} {g_X12_both : xSt → Option (xSt × Unit)} {g_X12_compared : xSt → Option (xSt × Unit)} {g_X12_either : xSt → Option (xSt × Unit)} {g_X12_operand : xSt → Option (xSt × Unit)} {g_X12_product : xSt → Option (xSt × Unit)} {g_X12_sum : xSt → Option (xSt × Unit)} (hg_X12_both : ∀ (S : xSt) (S' : xSt) (v' : Unit), g_X12_both S = some (S', v') → ∀ sz : Nat, Met l yX12_both (Cond.code yX12_both cX12_both 1 none :: xTB) ({ frames := 2 + d, cells := 0, slots := 0, locals := 44 + d * 21 } : Room) (va_Pc [.ref (a 0)] (xPre D cy xmb a z S sz)) (xQv D cy xmb a S' v' sz) 0 0 (xA xmb a sz)) (hg_X12_compared : ∀ (S : xSt) (S' : xSt) (v' : Unit), g_X12_compared S = some (S', v') → ∀ sz : Nat, Met l yX12_compared (Cond.code yX12_compared cX12_compared 2 none :: xTB) ({ frames := 2 + d, cells := 0, slots := 0, locals := 44 + d * 21 } : Room) (va_Pc [.ref (a 0)] (xPre D cy xmb a z S sz)) (xQv D cy xmb a S' v' sz) 0 0 (xA xmb a sz)) (hg_X12_either : ∀ (S : xSt) (S' : xSt) (v' : Unit), g_X12_either S = some (S', v') → ∀ sz : Nat, Met l yX12_either (Cond.code yX12_either cX12_either 1 none :: xTB) ({ frames := 2 + d, cells := 0, slots := 0, locals := 44 + d * 21 } : Room) (va_Pc [.ref (a 0)] (xPre D cy xmb a z S sz)) (xQv D cy xmb a S' v' sz) 0 0 (xA xmb a sz)) (hg_X12_operand : ∀ (S : xSt) (S' : xSt) (v' : Unit), g_X12_operand S = some (S', v') → ∀ sz : Nat, Met l yX12_operand (Cond.code yX12_operand cX12_operand 2 none :: xTB) ({ frames := 2 + d, cells := 0, slots := 0, locals := 44 + d * 21 } : Room) (va_Pc [.ref (a 0)] (xPre D cy xmb a z S sz)) (xQv D cy xmb a S' v' sz) 0 0 (xA xmb a sz)) (hg_X12_product : ∀ (S : xSt) (S' : xSt) (v' : Unit), g_X12_product S = some (S', v') → ∀ sz : Nat, Met l yX12_product (Cond.code yX12_product cX12_product 2 none :: xTB) ({ frames := 2 + d, cells := 0, slots := 0, locals := 44 + d * 21 } : Room) (va_Pc [.ref (a 0)] (xPre D cy xmb a z S sz)) (xQv D cy xmb a S' v' sz) 0 0 (xA xmb a sz)) (hg_X12_sum : ∀ (S : xSt) (S' : xSt) (v' : Unit), g_X12_sum S = some (S', v') → ∀ sz : Nat, Met l yX12_sum (Cond.code yX12_sum cX12_sum 2 none :: xTB) ({ frames := 2 + d, cells := 0, slots := 0, locals := 44 + d * 21 } : Room) (va_Pc [.ref (a 0)] (xPre D cy xmb a z S sz)) (xQv D cy xmb a S' v' sz) 0 0 (xA xmb a sz)) (hM : xM p c cX12_sum m s args RX12 2 D cy xmb a z) (hr : meth.sig.returnType = none) (hlk : meth.locks = false) {S' : xSt} {v' : Unit} {S : xSt} {q : (xSt × Unit)} (h : f_X12_sum_0 g_X12_both g_X12_compared g_X12_either g_X12_operand g_X12_product g_X12_sum S = some q) (k0 : ∀ t0 : xSt × Unit, q = t0 → t0 = (S', v')) {H : Heap} {locs : List Loc} (hG : xG D cy xmb a S s H locs) {ls : Array Slot} (hl : lv_has ls 2 [(0, .ref (a 0))]) : W p l e ({ frames := 2 + (d + 1), cells := 0, slots := 0, locals := 44 + (d + 1) * 21 } : Room) s m args below meth c H locs 0 0 (MQ below (xQv D cy xmb a S' v' s.heap.size) args s 0 0 (xA xmb a s.heap.size)) (F0 m 0 ls []) := by
  have hx := hM.1
  have hb := hM.2.1
  refine lv_aload_n hx hb dX12_sum_0 rfl (lv_at hl 0 rfl) ?_
  refine x_cVv (As := []) (rest := []) hM hG xml_X12_229 xwi_X12_product xws_X12_product xmt_0 (by decide) rfl h (fun S' v e => hg_X12_product _ _ _ e _) ⟨by show _ ≤ 2 + (d + 1); omega, by show _ ≤ 44 + (d + 1) * 21; omega⟩ rfl hl.1 rfl (Nat.le_of_ble_eq_true rfl) dX12_sum_1 (fun S_1 v_2 H locs h hG => ?_)
  exact wl_X12_sum_4 hg_X12_both hg_X12_compared hg_X12_either hg_X12_operand hg_X12_product hg_X12_sum hM hr hlk (fun t0 e => k0 t0 e) 5000 _ _ _ _ h hG (lv_sub hl [0] rfl)
set_option maxHeartbeats 4000000 in
set_option maxRecDepth 100000 in
theorem cr_F_X12_both {l : Launch} {D : va_G} {cy : Nat → ClassId} {a z : Nat → Nat} (hI : xI xmb a) : ∀ d : Nat, (∀ (S : xSt) (S' : xSt) (v' : Unit), f_X12_both d S = some (S', v') → ∀ sz : Nat, Met l yX12_both (Cond.code yX12_both cX12_both 1 none :: xTB) ({ frames := 2 + d, cells := 0, slots := 0, locals := 44 + d * 21 } : Room) (va_Pc [.ref (a 0)] (xPre D cy xmb a z S sz)) (xQv D cy xmb a S' v' sz) 0 0 (xA xmb a sz)) ∧ (∀ (S : xSt) (S' : xSt) (v' : Unit), f_X12_compared d S = some (S', v') → ∀ sz : Nat, Met l yX12_compared (Cond.code yX12_compared cX12_compared 2 none :: xTB) ({ frames := 2 + d, cells := 0, slots := 0, locals := 44 + d * 21 } : Room) (va_Pc [.ref (a 0)] (xPre D cy xmb a z S sz)) (xQv D cy xmb a S' v' sz) 0 0 (xA xmb a sz)) ∧ (∀ (S : xSt) (S' : xSt) (v' : Unit), f_X12_either d S = some (S', v') → ∀ sz : Nat, Met l yX12_either (Cond.code yX12_either cX12_either 1 none :: xTB) ({ frames := 2 + d, cells := 0, slots := 0, locals := 44 + d * 21 } : Room) (va_Pc [.ref (a 0)] (xPre D cy xmb a z S sz)) (xQv D cy xmb a S' v' sz) 0 0 (xA xmb a sz)) ∧ (∀ (S : xSt) (S' : xSt) (v' : Unit), f_X12_operand d S = some (S', v') → ∀ sz : Nat, Met l yX12_operand (Cond.code yX12_operand cX12_operand 2 none :: xTB) ({ frames := 2 + d, cells := 0, slots := 0, locals := 44 + d * 21 } : Room) (va_Pc [.ref (a 0)] (xPre D cy xmb a z S sz)) (xQv D cy xmb a S' v' sz) 0 0 (xA xmb a sz)) ∧ (∀ (S : xSt) (S' : xSt) (v' : Unit), f_X12_product d S = some (S', v') → ∀ sz : Nat, Met l yX12_product (Cond.code yX12_product cX12_product 2 none :: xTB) ({ frames := 2 + d, cells := 0, slots := 0, locals := 44 + d * 21 } : Room) (va_Pc [.ref (a 0)] (xPre D cy xmb a z S sz)) (xQv D cy xmb a S' v' sz) 0 0 (xA xmb a sz)) ∧ (∀ (S : xSt) (S' : xSt) (v' : Unit), f_X12_sum d S = some (S', v') → ∀ sz : Nat, Met l yX12_sum (Cond.code yX12_sum cX12_sum 2 none :: xTB) ({ frames := 2 + d, cells := 0, slots := 0, locals := 44 + d * 21 } : Room) (va_Pc [.ref (a 0)] (xPre D cy xmb a z S sz)) (xQv D cy xmb a S' v' sz) 0 0 (xA xmb a sz)) := by
  intro d
  induction d with
  | zero => exact ⟨(fun _ _ _ h => by cases h), (fun _ _ _ h => by cases h), (fun _ _ _ h => by cases h), (fun _ _ _ h => by cases h), (fun _ _ _ h => by cases h), (fun _ _ _ h => by cases h)⟩
  | succ d ih =>
    obtain ⟨ih0, ih1, ih2, ih3, ih4, ih5⟩ := ih
    refine ⟨?_, ?_, ?_, ?_, ?_, ?_⟩
    · intro S S' v' hf sz
      refine Met.ofW (cc := cX12_both) (maxL := 1) (ret := none) (by decide) rfl ?_
      intro p e s m args below meth c s₁ B hml hv
      obtain ⟨rfl, hsz, hP, hK, hE⟩ := hv
      subst hsz
      have hl := lv_entry ([.ref (a 0)]) (n := 1) (Nat.le_of_ble_eq_true rfl)
      rw [lg_entry_eq]
      generalize (lg_sl ([.ref (a 0)]) ++ List.replicate (1 - (lg_sl ([.ref (a 0)])).length) Slot.unset).toArray = ls at hl ⊢
      have hl : lv_has ls 1 [(0, .ref (a 0))] := hl
      exact w_X12_both_0 ih0 ih1 ih2 ih3 ih4 ih5 ⟨B.exec, B.bytes, hml, findClass_of_methodNamed B.named, fun w hw => atoms_spec (ws := Cond.code yX12_both cX12_both 1 none :: xTB) B.pre w (List.mem_cons_of_mem _ hw), hK, hI, hE⟩ B.returns B.notSynchronized hf (fun t0 e => e.symm) ⟨hP, va_S.rf⟩ (lv_sub hl [0] rfl)
    · intro S S' v' hf sz
      refine Met.ofW (cc := cX12_compared) (maxL := 2) (ret := none) (by decide) rfl ?_
      intro p e s m args below meth c s₁ B hml hv
      obtain ⟨rfl, hsz, hP, hK, hE⟩ := hv
      subst hsz
      have hl := lv_entry ([.ref (a 0)]) (n := 2) (Nat.le_of_ble_eq_true rfl)
      rw [lg_entry_eq]
      generalize (lg_sl ([.ref (a 0)]) ++ List.replicate (2 - (lg_sl ([.ref (a 0)])).length) Slot.unset).toArray = ls at hl ⊢
      have hl : lv_has ls 2 [(0, .ref (a 0))] := hl
      exact w_X12_compared_0 ih0 ih1 ih2 ih3 ih4 ih5 ⟨B.exec, B.bytes, hml, findClass_of_methodNamed B.named, fun w hw => atoms_spec (ws := Cond.code yX12_compared cX12_compared 2 none :: xTB) B.pre w (List.mem_cons_of_mem _ hw), hK, hI, hE⟩ B.returns B.notSynchronized hf (fun t0 e => e.symm) ⟨hP, va_S.rf⟩ (lv_sub hl [0] rfl)
    · intro S S' v' hf sz
      refine Met.ofW (cc := cX12_either) (maxL := 1) (ret := none) (by decide) rfl ?_
      intro p e s m args below meth c s₁ B hml hv
      obtain ⟨rfl, hsz, hP, hK, hE⟩ := hv
      subst hsz
      have hl := lv_entry ([.ref (a 0)]) (n := 1) (Nat.le_of_ble_eq_true rfl)
      rw [lg_entry_eq]
      generalize (lg_sl ([.ref (a 0)]) ++ List.replicate (1 - (lg_sl ([.ref (a 0)])).length) Slot.unset).toArray = ls at hl ⊢
      have hl : lv_has ls 1 [(0, .ref (a 0))] := hl
      exact w_X12_either_0 ih0 ih1 ih2 ih3 ih4 ih5 ⟨B.exec, B.bytes, hml, findClass_of_methodNamed B.named, fun w hw => atoms_spec (ws := Cond.code yX12_either cX12_either 1 none :: xTB) B.pre w (List.mem_cons_of_mem _ hw), hK, hI, hE⟩ B.returns B.notSynchronized hf (fun t0 e => e.symm) ⟨hP, va_S.rf⟩ (lv_sub hl [0] rfl)
    · intro S S' v' hf sz
      refine Met.ofW (cc := cX12_operand) (maxL := 2) (ret := none) (by decide) rfl ?_
      intro p e s m args below meth c s₁ B hml hv
      obtain ⟨rfl, hsz, hP, hK, hE⟩ := hv
      subst hsz
      have hl := lv_entry ([.ref (a 0)]) (n := 2) (Nat.le_of_ble_eq_true rfl)
      rw [lg_entry_eq]
      generalize (lg_sl ([.ref (a 0)]) ++ List.replicate (2 - (lg_sl ([.ref (a 0)])).length) Slot.unset).toArray = ls at hl ⊢
      have hl : lv_has ls 2 [(0, .ref (a 0))] := hl
      exact w_X12_operand_0 ih0 ih1 ih2 ih3 ih4 ih5 ⟨B.exec, B.bytes, hml, findClass_of_methodNamed B.named, fun w hw => atoms_spec (ws := Cond.code yX12_operand cX12_operand 2 none :: xTB) B.pre w (List.mem_cons_of_mem _ hw), hK, hI, hE⟩ B.returns B.notSynchronized hf (fun t0 e => e.symm) ⟨hP, va_S.rf⟩ (lv_sub hl [0] rfl)
    · intro S S' v' hf sz
      refine Met.ofW (cc := cX12_product) (maxL := 2) (ret := none) (by decide) rfl ?_
      intro p e s m args below meth c s₁ B hml hv
      obtain ⟨rfl, hsz, hP, hK, hE⟩ := hv
      subst hsz
      have hl := lv_entry ([.ref (a 0)]) (n := 2) (Nat.le_of_ble_eq_true rfl)
      rw [lg_entry_eq]
      generalize (lg_sl ([.ref (a 0)]) ++ List.replicate (2 - (lg_sl ([.ref (a 0)])).length) Slot.unset).toArray = ls at hl ⊢
      have hl : lv_has ls 2 [(0, .ref (a 0))] := hl
      exact w_X12_product_0 ih0 ih1 ih2 ih3 ih4 ih5 ⟨B.exec, B.bytes, hml, findClass_of_methodNamed B.named, fun w hw => atoms_spec (ws := Cond.code yX12_product cX12_product 2 none :: xTB) B.pre w (List.mem_cons_of_mem _ hw), hK, hI, hE⟩ B.returns B.notSynchronized hf (fun t0 e => e.symm) ⟨hP, va_S.rf⟩ (lv_sub hl [0] rfl)
    · intro S S' v' hf sz
      refine Met.ofW (cc := cX12_sum) (maxL := 2) (ret := none) (by decide) rfl ?_
      intro p e s m args below meth c s₁ B hml hv
      obtain ⟨rfl, hsz, hP, hK, hE⟩ := hv
      subst hsz
      have hl := lv_entry ([.ref (a 0)]) (n := 2) (Nat.le_of_ble_eq_true rfl)
      rw [lg_entry_eq]
      generalize (lg_sl ([.ref (a 0)]) ++ List.replicate (2 - (lg_sl ([.ref (a 0)])).length) Slot.unset).toArray = ls at hl ⊢
      have hl : lv_has ls 2 [(0, .ref (a 0))] := hl
      exact w_X12_sum_0 ih0 ih1 ih2 ih3 ih4 ih5 ⟨B.exec, B.bytes, hml, findClass_of_methodNamed B.named, fun w hw => atoms_spec (ws := Cond.code yX12_sum cX12_sum 2 none :: xTB) B.pre w (List.mem_cons_of_mem _ hw), hK, hI, hE⟩ B.returns B.notSynchronized hf (fun t0 e => e.symm) ⟨hP, va_S.rf⟩ (lv_sub hl [0] rfl)
theorem c_X12_both {l : Launch} {D : va_G} {cy : Nat → ClassId} {a z : Nat → Nat} (hI : xI xmb a) (d : Nat) {S : xSt} {S' : xSt} {v' : Unit} (hf : f_X12_both d S = some (S', v')) (sz : Nat) : Met l yX12_both (Cond.code yX12_both cX12_both 1 none :: xTB) ({ frames := 2 + d, cells := 0, slots := 0, locals := 44 + d * 21 } : Room) (va_Pc [.ref (a 0)] (xPre D cy xmb a z S sz)) (xQv D cy xmb a S' v' sz) 0 0 (xA xmb a sz) := (cr_F_X12_both hI d).1 _ _ _ hf sz
theorem c_X12_compared {l : Launch} {D : va_G} {cy : Nat → ClassId} {a z : Nat → Nat} (hI : xI xmb a) (d : Nat) {S : xSt} {S' : xSt} {v' : Unit} (hf : f_X12_compared d S = some (S', v')) (sz : Nat) : Met l yX12_compared (Cond.code yX12_compared cX12_compared 2 none :: xTB) ({ frames := 2 + d, cells := 0, slots := 0, locals := 44 + d * 21 } : Room) (va_Pc [.ref (a 0)] (xPre D cy xmb a z S sz)) (xQv D cy xmb a S' v' sz) 0 0 (xA xmb a sz) := (cr_F_X12_both hI d).2.1 _ _ _ hf sz
theorem c_X12_either {l : Launch} {D : va_G} {cy : Nat → ClassId} {a z : Nat → Nat} (hI : xI xmb a) (d : Nat) {S : xSt} {S' : xSt} {v' : Unit} (hf : f_X12_either d S = some (S', v')) (sz : Nat) : Met l yX12_either (Cond.code yX12_either cX12_either 1 none :: xTB) ({ frames := 2 + d, cells := 0, slots := 0, locals := 44 + d * 21 } : Room) (va_Pc [.ref (a 0)] (xPre D cy xmb a z S sz)) (xQv D cy xmb a S' v' sz) 0 0 (xA xmb a sz) := (cr_F_X12_both hI d).2.2.1 _ _ _ hf sz
theorem c_X12_operand {l : Launch} {D : va_G} {cy : Nat → ClassId} {a z : Nat → Nat} (hI : xI xmb a) (d : Nat) {S : xSt} {S' : xSt} {v' : Unit} (hf : f_X12_operand d S = some (S', v')) (sz : Nat) : Met l yX12_operand (Cond.code yX12_operand cX12_operand 2 none :: xTB) ({ frames := 2 + d, cells := 0, slots := 0, locals := 44 + d * 21 } : Room) (va_Pc [.ref (a 0)] (xPre D cy xmb a z S sz)) (xQv D cy xmb a S' v' sz) 0 0 (xA xmb a sz) := (cr_F_X12_both hI d).2.2.2.1 _ _ _ hf sz
theorem c_X12_product {l : Launch} {D : va_G} {cy : Nat → ClassId} {a z : Nat → Nat} (hI : xI xmb a) (d : Nat) {S : xSt} {S' : xSt} {v' : Unit} (hf : f_X12_product d S = some (S', v')) (sz : Nat) : Met l yX12_product (Cond.code yX12_product cX12_product 2 none :: xTB) ({ frames := 2 + d, cells := 0, slots := 0, locals := 44 + d * 21 } : Room) (va_Pc [.ref (a 0)] (xPre D cy xmb a z S sz)) (xQv D cy xmb a S' v' sz) 0 0 (xA xmb a sz) := (cr_F_X12_both hI d).2.2.2.2.1 _ _ _ hf sz
theorem c_X12_sum {l : Launch} {D : va_G} {cy : Nat → ClassId} {a z : Nat → Nat} (hI : xI xmb a) (d : Nat) {S : xSt} {S' : xSt} {v' : Unit} (hf : f_X12_sum d S = some (S', v')) (sz : Nat) : Met l yX12_sum (Cond.code yX12_sum cX12_sum 2 none :: xTB) ({ frames := 2 + d, cells := 0, slots := 0, locals := 44 + d * 21 } : Room) (va_Pc [.ref (a 0)] (xPre D cy xmb a z S sz)) (xQv D cy xmb a S' v' sz) 0 0 (xA xmb a sz) := (cr_F_X12_both hI d).2.2.2.2.2 _ _ _ hf sz
set_option maxHeartbeats 4000000 in
set_option maxRecDepth 100000 in
theorem w_X12_line_66 {x1 : Int32} (hM : xM p c cX12_line m s args RX12 2 D cy xmb a z) (hr : meth.sig.returnType = none) (hlk : meth.locks = false) {S' : xSt} {v' : Unit} {S : xSt} {q : (xSt × Unit)} (h : f_X12_line_66 x1 S = some q) (k0 : ∀ t0 : xSt × Unit, q = t0 → t0 = (S', v')) {H : Heap} {locs : List Loc} (hG : xG D cy xmb a S s H locs) {ls : Array Slot} (hl : lv_has ls 2 [(0, .ref (a 0)), (1, .int x1)]) : W p l e ({ frames := 73, cells := 0, slots := 0, locals := 1534 } : Room) s m args below meth c H locs 0 0 (MQ below (xQv D cy xmb a S' v' s.heap.size) args s 0 0 (xA xmb a s.heap.size)) (F0 m 66 ls []) := by
  have hx := hM.1
  have hb := hM.2.1
  refine lv_aload_n hx hb dX12_line_66 rfl (lv_at hl 0 rfl) ?_
  refine x_gr (r := 19) hM hG xfl_X12_68 xmt_0 (by decide) rfl dX12_line_67 ?_
  refine lv_iload_n hx hb dX12_line_70 rfl (lv_at hl 1 rfl) ?_
  refine lv_aload_n hx hb dX12_line_71 rfl (lv_at hl 0 rfl) ?_
  refine x_gi hM hG xfl_X12_195 xmt_0 (by decide) rfl h dX12_line_72 (fun v_1 h => ?_)
  refine x_i2s hM h dX12_line_75 (fun v_2 h => ?_)
  refine x_sast hM hG xmt_19 h dX12_line_76 (fun S_3 H locs h hG => ?_)
  refine lv_aload_n hx hb dX12_line_77 rfl (lv_at hl 0 rfl) ?_
  refine x_gr (r := 17) hM hG xfl_X12_61 xmt_0 (by decide) rfl dX12_line_78 ?_
  refine lv_iconst (v := (1 : Int32)) hx hb dX12_line_81 (by decide) ?_
  refine lv_dup2_11 hx hb dX12_line_82 rfl rfl ?_
  refine x_iald hM hG xmt_17 h dX12_line_83 (fun v_4 h => ?_)
  refine lv_iconst (v := (1 : Int32)) hx hb dX12_line_84 (by decide) ?_
  refine x_iadd hM h dX12_line_85 (fun v_5 h => ?_)
  refine x_iast hM hG xmt_17 h dX12_line_86 (fun S_6 H locs h hG => ?_)
  exact x_rv hM hG hr hlk (k0 _ (Option.some.inj h).symm) dX12_line_87
set_option maxHeartbeats 4000000 in
set_option maxRecDepth 100000 in
theorem w_X12_line_0 (hM : xM p c cX12_line m s args RX12 2 D cy xmb a z) (hr : meth.sig.returnType = none) (hlk : meth.locks = false) {S' : xSt} {v' : Unit} {S : xSt} {q : (xSt × Unit)} (h : f_X12_line_0 S = some q) (k0 : ∀ t0 : xSt × Unit, q = t0 → t0 = (S', v')) {H : Heap} {locs : List Loc} (hG : xG D cy xmb a S s H locs) {ls : Array Slot} (hl : lv_has ls 2 [(0, .ref (a 0))]) : W p l e ({ frames := 73, cells := 0, slots := 0, locals := 1534 } : Room) s m args below meth c H locs 0 0 (MQ below (xQv D cy xmb a S' v' s.heap.size) args s 0 0 (xA xmb a s.heap.size)) (F0 m 0 ls []) := by
  have hx := hM.1
  have hb := hM.2.1
  refine lv_bipush (v := (61 : Int32)) hx hb dX12_line_0 (by decide) ?_
  refine lv_aload_n hx hb dX12_line_2 rfl (lv_at hl 0 rfl) ?_
  refine x_gr (r := 17) hM hG xfl_X12_61 xmt_0 (by decide) rfl dX12_line_3 ?_
  refine lv_iconst (v := (1 : Int32)) hx hb dX12_line_6 (by decide) ?_
  refine x_iald hM hG xmt_17 h dX12_line_7 (fun v_1 h => ?_)
  refine x_iadd hM h dX12_line_8 (fun v_2 h => ?_)
  refine lv_istore_n (lv' := [(1, .int v_2), (0, .ref (a 0))]) hx hb dX12_line_9 rfl hl (by decide) rfl (fun ls hl => ?_)
  refine lv_aload_n hx hb dX12_line_10 rfl (lv_at hl 1 rfl) ?_
  refine x_gr (r := 18) hM hG xfl_X12_64 xmt_0 (by decide) rfl dX12_line_11 ?_
  refine lv_iload_n hx hb dX12_line_14 rfl (lv_at hl 0 rfl) ?_
  refine lv_aload_n hx hb dX12_line_15 rfl (lv_at hl 1 rfl) ?_
  refine x_gi hM hG xfl_X12_195 xmt_0 (by decide) rfl h dX12_line_16 (fun v_3 h => ?_)
  refine x_i2s hM h dX12_line_19 (fun v_4 h => ?_)
  refine x_sast hM hG xmt_18 h dX12_line_20 (fun S_5 H locs h hG => ?_)
  refine lv_aload_n hx hb dX12_line_21 rfl (lv_at hl 1 rfl) ?_
  refine x_cVv (As := []) (rest := []) hM hG xml_X12_223 xwi_X12_either xws_X12_either xmt_0 (by decide) rfl h (fun S' v e => c_X12_either hM.2.2.2.2.2.2.1 70 e _) ⟨Nat.le_of_ble_eq_true rfl, Nat.le_of_ble_eq_true rfl⟩ rfl hl.1 rfl (Nat.le_of_ble_eq_true rfl) dX12_line_22 (fun S_6 v_7 H locs h hG => ?_)
  refine lv_aload_n hx hb dX12_line_25 rfl (lv_at hl 1 rfl) ?_
  refine x_gi hM hG xfl_X12_192 xmt_0 (by decide) rfl h dX12_line_26 (fun v_8 h => ?_)
  refine x_if_ge (tgt := 66) hM h dX12_line_29 (by decide) (fun c_9 h => ?_) (fun c_9 h => ?_)
  · exact w_X12_line_66 hM hr hlk h (fun t0 e => k0 t0 e) hG (lv_sub hl [1, 0] rfl)
  · refine lv_aload_n hx hb dX12_line_32 rfl (lv_at hl 1 rfl) ?_
    refine x_cVi (As := []) (rest := []) hM hG xml_X12_204 xwi_X12_look xws_X12_look xmt_0 (by decide) rfl h (fun S' v e => c_X12_look hM.2.2.2.2.2.2.1 e _) ⟨Nat.le_of_ble_eq_true rfl, Nat.le_of_ble_eq_true rfl⟩ rfl hl.1 rfl (Nat.le_of_ble_eq_true rfl) dX12_line_33 (fun S_10 v_11 H locs h hG => ?_)
    refine lv_bipush (v := (63 : Int32)) hx hb dX12_line_36 (by decide) ?_
    refine x_icmp_ne (tgt := 66) hM h dX12_line_38 (by decide) (fun c_12 h => ?_) (fun c_12 h => ?_)
    · exact w_X12_line_66 hM hr hlk h (fun t0 e => k0 t0 e) hG (lv_sub hl [1, 0] rfl)
    · refine lv_aload_n hx hb dX12_line_41 rfl (lv_at hl 1 rfl) ?_
      refine lv_dup hx hb dX12_line_42 rfl ?_
      refine x_gi hM hG xfl_X12_189 xmt_0 (by decide) rfl h dX12_line_43 (fun v_13 h => ?_)
      refine lv_iconst (v := (1 : Int32)) hx hb dX12_line_46 (by decide) ?_
      refine x_iadd hM h dX12_line_47 (fun v_14 h => ?_)
      refine x_pi hM hG xfl_X12_189 xfp_X12_18 xmt_0 (by decide) rfl rfl rfl h dX12_line_48 (fun S_15 H locs h hG => ?_)
      refine lv_aload_n hx hb dX12_line_51 rfl (lv_at hl 1 rfl) ?_
      refine x_gr (r := 18) hM hG xfl_X12_64 xmt_0 (by decide) rfl dX12_line_52 ?_
      refine lv_iload_n hx hb dX12_line_55 rfl (lv_at hl 0 rfl) ?_
      refine lv_aload_n hx hb dX12_line_56 rfl (lv_at hl 1 rfl) ?_
      refine x_gi hM hG xfl_X12_195 xmt_0 (by decide) rfl h dX12_line_57 (fun v_16 h => ?_)
      refine x_i2s hM h dX12_line_60 (fun v_17 h => ?_)
      refine x_sast hM hG xmt_18 h dX12_line_61 (fun S_18 H locs h hG => ?_)
      refine lv_aload_n hx hb dX12_line_62 rfl (lv_at hl 1 rfl) ?_
      refine x_cVv (As := []) (rest := []) hM hG xml_X12_223 xwi_X12_either xws_X12_either xmt_0 (by decide) rfl h (fun S' v e => c_X12_either hM.2.2.2.2.2.2.1 70 e _) ⟨Nat.le_of_ble_eq_true rfl, Nat.le_of_ble_eq_true rfl⟩ rfl hl.1 rfl (Nat.le_of_ble_eq_true rfl) dX12_line_63 (fun S_19 v_20 H locs h hG => ?_)
      exact w_X12_line_66 hM hr hlk h (fun t0 e => k0 t0 e) hG (lv_sub hl [1, 0] rfl)
set_option maxHeartbeats 4000000 in
set_option maxRecDepth 100000 in
theorem c_X12_line {l : Launch} {D : va_G} {cy : Nat → ClassId} {a z : Nat → Nat} (hI : xI xmb a) {S : xSt} {S' : xSt} {v' : Unit} (hf : f_X12_line S = some (S', v')) (sz : Nat) : Met l yX12_line (Cond.code yX12_line cX12_line 2 none :: xTB) ({ frames := 73, cells := 0, slots := 0, locals := 1534 } : Room) (va_Pc [.ref (a 0)] (xPre D cy xmb a z S sz)) (xQv D cy xmb a S' v' sz) 0 0 (xA xmb a sz) := by
  refine Met.ofW (cc := cX12_line) (maxL := 2) (ret := none) (by decide) rfl ?_
  intro p e s m args below meth c s₁ B hml hv
  obtain ⟨rfl, hsz, hP, hK, hE⟩ := hv
  subst hsz
  have hl := lv_entry ([.ref (a 0)]) (n := 2) (Nat.le_of_ble_eq_true rfl)
  rw [lg_entry_eq]
  generalize (lg_sl ([.ref (a 0)]) ++ List.replicate (2 - (lg_sl ([.ref (a 0)])).length) Slot.unset).toArray = ls at hl ⊢
  have hl : lv_has ls 2 [(0, .ref (a 0))] := hl
  exact w_X12_line_0 ⟨B.exec, B.bytes, hml, findClass_of_methodNamed B.named, fun w hw => atoms_spec (ws := Cond.code yX12_line cX12_line 2 none :: xTB) B.pre w (List.mem_cons_of_mem _ hw), hK, hI, hE⟩ B.returns B.notSynchronized hf (fun t0 e => e.symm) ⟨hP, va_S.rf⟩ (lv_sub hl [0] rfl)
set_option maxHeartbeats 4000000 in
set_option maxRecDepth 100000 in
theorem w_X12_readText_177 {x1 : Int32} {x2 : Int32} (hM : xM p c cX12_readText m s args RX12 3 D cy xmb a z) (hr : meth.sig.returnType = (some .int)) (hlk : meth.locks = false) {S' : xSt} {v' : Int32} {S : xSt} {q : ((xSt × Int32) ⊕ (xSt × Int32))} (h : f_X12_readText_177 x1 S x2 = some q) (k0 : ∀ t0 : xSt × Int32, q = (.inr t0) → t0 = (S', v')) (k1 : ∀ (S : xSt) (x2 : Int32), q = (.inl (S, x2)) → ∀ (H : Heap) (locs : List Loc) (ls : Array Slot), xG D cy xmb a S s H locs → lv_has ls 3 [(0, .ref (a 0)), (1, .int x1), (2, .int x2)] → W p l e ({ frames := 74, cells := 0, slots := 0, locals := 1555 } : Room) s m args below meth c H locs 0 0 (MQ below (xQi D cy xmb a S' v' s.heap.size) args s 0 0 (xA xmb a s.heap.size)) (F0 m 177 ls [])) {H : Heap} {locs : List Loc} (hG : xG D cy xmb a S s H locs) {ls : Array Slot} (hl : lv_has ls 3 [(0, .ref (a 0)), (1, .int x1), (2, .int x2)]) : W p l e ({ frames := 74, cells := 0, slots := 0, locals := 1555 } : Room) s m args below meth c H locs 0 0 (MQ below (xQi D cy xmb a S' v' s.heap.size) args s 0 0 (xA xmb a s.heap.size)) (F0 m 177 ls []) := by
  have hx := hM.1
  have hb := hM.2.1
  refine lv_iload_n hx hb dX12_readText_177 rfl (lv_at hl 2 rfl) ?_
  refine lv_aload_n hx hb dX12_readText_178 rfl (lv_at hl 0 rfl) ?_
  refine x_gr (r := 17) hM hG xfl_X12_61 xmt_0 (by decide) rfl dX12_readText_179 ?_
  refine lv_iload_n hx hb dX12_readText_182 rfl (lv_at hl 1 rfl) ?_
  refine x_iald hM hG xmt_17 h dX12_readText_183 (fun v_1 h => ?_)
  refine x_icmp_ge (tgt := 233) hM h dX12_readText_184 (by decide) (fun c_2 h => ?_) (fun c_2 h => ?_)
  · refine lv_iconst (v := (-1 : Int32)) hx hb dX12_readText_233 (by decide) ?_
    exact x_ri hM hG hr hlk rfl (k0 _ (Option.some.inj h).symm) dX12_readText_234
  · refine lv_aload_n hx hb dX12_readText_187 rfl (lv_at hl 0 rfl) ?_
    refine x_gr (r := 18) hM hG xfl_X12_64 xmt_0 (by decide) rfl dX12_readText_188 ?_
    refine lv_bipush (v := (61 : Int32)) hx hb dX12_readText_191 (by decide) ?_
    refine lv_iload_n hx hb dX12_readText_193 rfl (lv_at hl 1 rfl) ?_
    refine x_imul hM h dX12_readText_194 (fun v_3 h => ?_)
    refine lv_iload_n hx hb dX12_readText_195 rfl (lv_at hl 2 rfl) ?_
    refine x_iadd hM h dX12_readText_196 (fun v_4 h => ?_)
    refine lv_aload_n hx hb dX12_readText_197 rfl (lv_at hl 0 rfl) ?_
    refine x_gr (r := 18) hM hG xfl_X12_64 xmt_0 (by decide) rfl dX12_readText_198 ?_
    refine lv_bipush (v := (61 : Int32)) hx hb dX12_readText_201 (by decide) ?_
    refine lv_iload_n hx hb dX12_readText_203 rfl (lv_at hl 2 rfl) ?_
    refine x_iadd hM h dX12_readText_204 (fun v_5 h => ?_)
    refine x_sald hM hG xmt_18 h dX12_readText_205 (fun v_6 h => ?_)
    refine x_sast hM hG xmt_18 h dX12_readText_206 (fun S_7 H locs h hG => ?_)
    refine lv_aload_n hx hb dX12_readText_207 rfl (lv_at hl 0 rfl) ?_
    refine x_gr (r := 19) hM hG xfl_X12_68 xmt_0 (by decide) rfl dX12_readText_208 ?_
    refine lv_bipush (v := (61 : Int32)) hx hb dX12_readText_211 (by decide) ?_
    refine lv_iload_n hx hb dX12_readText_213 rfl (lv_at hl 1 rfl) ?_
    refine x_imul hM h dX12_readText_214 (fun v_8 h => ?_)
    refine lv_iload_n hx hb dX12_readText_215 rfl (lv_at hl 2 rfl) ?_
    refine x_iadd hM h dX12_readText_216 (fun v_9 h => ?_)
    refine lv_aload_n hx hb dX12_readText_217 rfl (lv_at hl 0 rfl) ?_
    refine x_gr (r := 19) hM hG xfl_X12_68 xmt_0 (by decide) rfl dX12_readText_218 ?_
    refine lv_bipush (v := (61 : Int32)) hx hb dX12_readText_221 (by decide) ?_
    refine lv_iload_n hx hb dX12_readText_223 rfl (lv_at hl 2 rfl) ?_
    refine x_iadd hM h dX12_readText_224 (fun v_10 h => ?_)
    refine x_sald hM hG xmt_19 h dX12_readText_225 (fun v_11 h => ?_)
    refine x_sast hM hG xmt_19 h dX12_readText_226 (fun S_12 H locs h hG => ?_)
    refine x_iinc hM (fun v => [(2, .int v), (0, .ref (a 0)), (1, .int x1)]) h dX12_readText_227 hl (k := 2) rfl (by decide) (by decide) (fun _ => rfl) (fun v_13 ls h hl => ?_)
    refine lv_goto (tgt := 177) hx hb dX12_readText_230 (by decide) ?_
    exact k1 _ _ (Option.some.inj h).symm _ _ _ hG (lv_sub hl [1, 2, 0] rfl)
theorem wl_X12_readText_177 {x1 : Int32} (hM : xM p c cX12_readText m s args RX12 3 D cy xmb a z) (hr : meth.sig.returnType = (some .int)) (hlk : meth.locks = false) {S' : xSt} {v' : Int32} {q : (xSt × Int32)} (k0 : ∀ t0 : xSt × Int32, q = t0 → t0 = (S', v')) (n : Nat) : ∀ (S : xSt) (x2 : Int32) (H : Heap) (locs : List Loc) (ls : Array Slot), xlp (fun q : (xSt × Int32) => f_X12_readText_177 x1 q.1 q.2) n (S, x2) = some q → xG D cy xmb a S s H locs → lv_has ls 3 [(0, .ref (a 0)), (1, .int x1), (2, .int x2)] → W p l e ({ frames := 74, cells := 0, slots := 0, locals := 1555 } : Room) s m args below meth c H locs 0 0 (MQ below (xQi D cy xmb a S' v' s.heap.size) args s 0 0 (xA xmb a s.heap.size)) (F0 m 177 ls []) := by
  induction n with
  | zero => intro S x2 H locs ls h; exact (xlp_0 h).elim
  | succ n ih =>
    intro S x2 H locs ls h hG hl
    obtain ⟨q1, hq, hc, he⟩ := xlp_at h
    exact w_X12_readText_177 hM hr hlk (q := q1) hq (fun t0 e => k0 t0 (he _ e).symm) (fun S x2 e H locs ls hG hl => ih S x2 H locs ls (hc _ e) hG hl) hG hl
set_option maxHeartbeats 4000000 in
set_option maxRecDepth 100000 in
theorem w_X12_readText_163 {x1 : Int32} (hM : xM p c cX12_readText m s args RX12 3 D cy xmb a z) (hr : meth.sig.returnType = (some .int)) (hlk : meth.locks = false) {S' : xSt} {v' : Int32} {S : xSt} {q : (xSt × Int32)} (h : f_X12_readText_163 x1 S = some q) (k0 : ∀ t0 : xSt × Int32, q = t0 → t0 = (S', v')) {H : Heap} {locs : List Loc} (hG : xG D cy xmb a S s H locs) {ls : Array Slot} (hl : lv_has ls 3 [(0, .ref (a 0)), (1, .int x1)]) : W p l e ({ frames := 74, cells := 0, slots := 0, locals := 1555 } : Room) s m args below meth c H locs 0 0 (MQ below (xQi D cy xmb a S' v' s.heap.size) args s 0 0 (xA xmb a s.heap.size)) (F0 m 163 ls []) := by
  have hx := hM.1
  have hb := hM.2.1
  refine lv_aload_n hx hb dX12_readText_163 rfl (lv_at hl 0 rfl) ?_
  refine x_gr (r := 17) hM hG xfl_X12_61 xmt_0 (by decide) rfl dX12_readText_164 ?_
  refine lv_iload_n hx hb dX12_readText_167 rfl (lv_at hl 1 rfl) ?_
  refine lv_aload_n hx hb dX12_readText_168 rfl (lv_at hl 0 rfl) ?_
  refine x_gr (r := 17) hM hG xfl_X12_61 xmt_0 (by decide) rfl dX12_readText_169 ?_
  refine lv_iconst (v := (1 : Int32)) hx hb dX12_readText_172 (by decide) ?_
  refine x_iald hM hG xmt_17 h dX12_readText_173 (fun v_1 h => ?_)
  refine x_iast hM hG xmt_17 h dX12_readText_174 (fun S_2 H locs h hG => ?_)
  refine lv_iconst (v := (0 : Int32)) hx hb dX12_readText_175 (by decide) ?_
  refine lv_istore_n (lv' := [(2, .int (0 : Int32)), (0, .ref (a 0)), (1, .int x1)]) hx hb dX12_readText_176 rfl hl (by decide) rfl (fun ls hl => ?_)
  exact wl_X12_readText_177 hM hr hlk (fun t0 e => k0 t0 e) 5000 _ _ _ _ _ h hG (lv_sub hl [1, 2, 0] rfl)
set_option maxHeartbeats 4000000 in
set_option maxRecDepth 100000 in
theorem w_X12_readText_105 {x1 : Int32} {x2 : Int32} (hM : xM p c cX12_readText m s args RX12 3 D cy xmb a z) (hr : meth.sig.returnType = (some .int)) (hlk : meth.locks = false) {S' : xSt} {v' : Int32} {S : xSt} {q : ((xSt × Int32) ⊕ (xSt × Int32))} (h : f_X12_readText_105 x1 S x2 = some q) (k0 : ∀ t0 : xSt × Int32, q = (.inr t0) → t0 = (S', v')) (k1 : ∀ (S : xSt) (x2 : Int32), q = (.inl (S, x2)) → ∀ (H : Heap) (locs : List Loc) (ls : Array Slot), xG D cy xmb a S s H locs → lv_has ls 3 [(0, .ref (a 0)), (1, .int x1), (2, .int x2)] → W p l e ({ frames := 74, cells := 0, slots := 0, locals := 1555 } : Room) s m args below meth c H locs 0 0 (MQ below (xQi D cy xmb a S' v' s.heap.size) args s 0 0 (xA xmb a s.heap.size)) (F0 m 105 ls [])) {H : Heap} {locs : List Loc} (hG : xG D cy xmb a S s H locs) {ls : Array Slot} (hl : lv_has ls 3 [(0, .ref (a 0)), (1, .int x1), (2, .int x2)]) : W p l e ({ frames := 74, cells := 0, slots := 0, locals := 1555 } : Room) s m args below meth c H locs 0 0 (MQ below (xQi D cy xmb a S' v' s.heap.size) args s 0 0 (xA xmb a s.heap.size)) (F0 m 105 ls []) := by
  have hx := hM.1
  have hb := hM.2.1
  refine lv_iload_n hx hb dX12_readText_105 rfl (lv_at hl 2 rfl) ?_
  refine lv_aload_n hx hb dX12_readText_106 rfl (lv_at hl 0 rfl) ?_
  refine x_gi hM hG xfl_X12_195 xmt_0 (by decide) rfl h dX12_readText_107 (fun v_1 h => ?_)
  refine x_icmp_ge (tgt := 163) hM h dX12_readText_110 (by decide) (fun c_2 h => ?_) (fun c_2 h => ?_)
  · obtain ⟨q1, h, e1⟩ := xmr_at h
    exact w_X12_readText_163 hM hr hlk h (fun t0 e => k0 t0 (by rw [e1, e])) hG (lv_sub hl [0, 1] rfl)
  · refine lv_aload_n hx hb dX12_readText_113 rfl (lv_at hl 0 rfl) ?_
    refine x_gr (r := 15) hM hG xfl_X12_55 xmt_0 (by decide) rfl dX12_readText_114 ?_
    refine lv_sipush (v := (130 : Int32)) hx hb dX12_readText_117 (by decide) ?_
    refine lv_iload_n hx hb dX12_readText_120 rfl (lv_at hl 1 rfl) ?_
    refine x_imul hM h dX12_readText_121 (fun v_3 h => ?_)
    refine lv_iload_n hx hb dX12_readText_122 rfl (lv_at hl 2 rfl) ?_
    refine x_iadd hM h dX12_readText_123 (fun v_4 h => ?_)
    refine lv_aload_n hx hb dX12_readText_124 rfl (lv_at hl 0 rfl) ?_
    refine x_gr (r := 15) hM hG xfl_X12_55 xmt_0 (by decide) rfl dX12_readText_125 ?_
    refine lv_sipush (v := (130 : Int32)) hx hb dX12_readText_128 (by decide) ?_
    refine lv_iload_n hx hb dX12_readText_131 rfl (lv_at hl 2 rfl) ?_
    refine x_iadd hM h dX12_readText_132 (fun v_5 h => ?_)
    refine x_bald hM hG xmt_15 h dX12_readText_133 (fun v_6 h => ?_)
    refine x_bast hM hG xmt_15 h dX12_readText_134 (fun S_7 H locs h hG => ?_)
    refine lv_aload_n hx hb dX12_readText_135 rfl (lv_at hl 0 rfl) ?_
    refine x_gr (r := 16) hM hG xfl_X12_58 xmt_0 (by decide) rfl dX12_readText_136 ?_
    refine lv_sipush (v := (130 : Int32)) hx hb dX12_readText_139 (by decide) ?_
    refine lv_iload_n hx hb dX12_readText_142 rfl (lv_at hl 1 rfl) ?_
    refine x_imul hM h dX12_readText_143 (fun v_8 h => ?_)
    refine lv_iload_n hx hb dX12_readText_144 rfl (lv_at hl 2 rfl) ?_
    refine x_iadd hM h dX12_readText_145 (fun v_9 h => ?_)
    refine lv_aload_n hx hb dX12_readText_146 rfl (lv_at hl 0 rfl) ?_
    refine x_gr (r := 16) hM hG xfl_X12_58 xmt_0 (by decide) rfl dX12_readText_147 ?_
    refine lv_sipush (v := (130 : Int32)) hx hb dX12_readText_150 (by decide) ?_
    refine lv_iload_n hx hb dX12_readText_153 rfl (lv_at hl 2 rfl) ?_
    refine x_iadd hM h dX12_readText_154 (fun v_10 h => ?_)
    refine x_iald hM hG xmt_16 h dX12_readText_155 (fun v_11 h => ?_)
    refine x_iast hM hG xmt_16 h dX12_readText_156 (fun S_12 H locs h hG => ?_)
    refine x_iinc hM (fun v => [(2, .int v), (0, .ref (a 0)), (1, .int x1)]) h dX12_readText_157 hl (k := 2) rfl (by decide) (by decide) (fun _ => rfl) (fun v_13 ls h hl => ?_)
    refine lv_goto (tgt := 105) hx hb dX12_readText_160 (by decide) ?_
    exact k1 _ _ (Option.some.inj h).symm _ _ _ hG (lv_sub hl [1, 2, 0] rfl)
theorem wl_X12_readText_105 {x1 : Int32} (hM : xM p c cX12_readText m s args RX12 3 D cy xmb a z) (hr : meth.sig.returnType = (some .int)) (hlk : meth.locks = false) {S' : xSt} {v' : Int32} {q : (xSt × Int32)} (k0 : ∀ t0 : xSt × Int32, q = t0 → t0 = (S', v')) (n : Nat) : ∀ (S : xSt) (x2 : Int32) (H : Heap) (locs : List Loc) (ls : Array Slot), xlp (fun q : (xSt × Int32) => f_X12_readText_105 x1 q.1 q.2) n (S, x2) = some q → xG D cy xmb a S s H locs → lv_has ls 3 [(0, .ref (a 0)), (1, .int x1), (2, .int x2)] → W p l e ({ frames := 74, cells := 0, slots := 0, locals := 1555 } : Room) s m args below meth c H locs 0 0 (MQ below (xQi D cy xmb a S' v' s.heap.size) args s 0 0 (xA xmb a s.heap.size)) (F0 m 105 ls []) := by
  induction n with
  | zero => intro S x2 H locs ls h; exact (xlp_0 h).elim
  | succ n ih =>
    intro S x2 H locs ls h hG hl
    obtain ⟨q1, hq, hc, he⟩ := xlp_at h
    exact w_X12_readText_105 hM hr hlk (q := q1) hq (fun t0 e => k0 t0 (he _ e).symm) (fun S x2 e H locs ls hG hl => ih S x2 H locs ls (hc _ e) hG hl) hG hl
set_option maxHeartbeats 4000000 in
set_option maxRecDepth 100000 in
theorem w_X12_readText_86 {x1 : Int32} (hM : xM p c cX12_readText m s args RX12 3 D cy xmb a z) (hr : meth.sig.returnType = (some .int)) (hlk : meth.locks = false) {S' : xSt} {v' : Int32} {S : xSt} {q : (xSt × Int32)} (h : f_X12_readText_86 x1 S = some q) (k0 : ∀ t0 : xSt × Int32, q = t0 → t0 = (S', v')) {H : Heap} {locs : List Loc} (hG : xG D cy xmb a S s H locs) {ls : Array Slot} (hl : lv_has ls 3 [(0, .ref (a 0)), (1, .int x1)]) : W p l e ({ frames := 74, cells := 0, slots := 0, locals := 1555 } : Room) s m args below meth c H locs 0 0 (MQ below (xQi D cy xmb a S' v' s.heap.size) args s 0 0 (xA xmb a s.heap.size)) (F0 m 86 ls []) := by
  have hx := hM.1
  have hb := hM.2.1
  refine lv_aload_n hx hb dX12_readText_86 rfl (lv_at hl 0 rfl) ?_
  refine lv_iconst (v := (0 : Int32)) hx hb dX12_readText_87 (by decide) ?_
  refine x_pi hM hG xfl_X12_186 xfp_X12_17 xmt_0 (by decide) rfl rfl rfl h dX12_readText_88 (fun S_1 H locs h hG => ?_)
  refine lv_aload_n hx hb dX12_readText_91 rfl (lv_at hl 0 rfl) ?_
  refine x_gi hM hG xfl_X12_192 xmt_0 (by decide) rfl h dX12_readText_92 (fun v_2 h => ?_)
  refine x_if_lt (tgt := 103) hM h dX12_readText_95 (by decide) (fun c_3 h => ?_) (fun c_3 h => ?_)
  · refine lv_iconst (v := (0 : Int32)) hx hb dX12_readText_103 (by decide) ?_
    refine lv_istore_n (lv' := [(2, .int (0 : Int32)), (0, .ref (a 0)), (1, .int x1)]) hx hb dX12_readText_104 rfl hl (by decide) rfl (fun ls hl => ?_)
    exact wl_X12_readText_105 hM hr hlk (fun t0 e => k0 t0 e) 5000 _ _ _ _ _ h hG (lv_sub hl [1, 2, 0] rfl)
  · refine lv_aload_n hx hb dX12_readText_98 rfl (lv_at hl 0 rfl) ?_
    refine x_gi hM hG xfl_X12_192 xmt_0 (by decide) rfl h dX12_readText_99 (fun v_4 h => ?_)
    exact x_ri hM hG hr hlk rfl (k0 _ (Option.some.inj h).symm) dX12_readText_102
set_option maxHeartbeats 4000000 in
set_option maxRecDepth 100000 in
theorem w_X12_readText_64 {x1 : Int32} (hM : xM p c cX12_readText m s args RX12 3 D cy xmb a z) (hr : meth.sig.returnType = (some .int)) (hlk : meth.locks = false) {S' : xSt} {v' : Int32} {S : xSt} {q : (xSt × Int32)} (h : f_X12_readText_64 x1 S = some q) (k0 : ∀ t0 : xSt × Int32, q = t0 → t0 = (S', v')) {H : Heap} {locs : List Loc} (hG : xG D cy xmb a S s H locs) {ls : Array Slot} (hl : lv_has ls 3 [(0, .ref (a 0)), (1, .int x1)]) : W p l e ({ frames := 74, cells := 0, slots := 0, locals := 1555 } : Room) s m args below meth c H locs 0 0 (MQ below (xQi D cy xmb a S' v' s.heap.size) args s 0 0 (xA xmb a s.heap.size)) (F0 m 64 ls []) := by
  have hx := hM.1
  have hb := hM.2.1
  refine lv_aload_n hx hb dX12_readText_64 rfl (lv_at hl 0 rfl) ?_
  refine x_gi hM hG xfl_X12_192 xmt_0 (by decide) rfl h dX12_readText_65 (fun v_1 h => ?_)
  refine x_if_ge (tgt := 86) hM h dX12_readText_68 (by decide) (fun c_2 h => ?_) (fun c_2 h => ?_)
  · exact w_X12_readText_86 hM hr hlk h (fun t0 e => k0 t0 e) hG (lv_sub hl [0, 1] rfl)
  · refine lv_aload_n hx hb dX12_readText_71 rfl (lv_at hl 0 rfl) ?_
    refine x_gi hM hG xfl_X12_189 xmt_0 (by decide) rfl h dX12_readText_72 (fun v_3 h => ?_)
    refine lv_aload_n hx hb dX12_readText_75 rfl (lv_at hl 0 rfl) ?_
    refine x_gi hM hG xfl_X12_186 xmt_0 (by decide) rfl h dX12_readText_76 (fun v_4 h => ?_)
    refine x_icmp_ge (tgt := 86) hM h dX12_readText_79 (by decide) (fun c_5 h => ?_) (fun c_5 h => ?_)
    · exact w_X12_readText_86 hM hr hlk h (fun t0 e => k0 t0 e) hG (lv_sub hl [0, 1] rfl)
    · refine lv_aload_n hx hb dX12_readText_82 rfl (lv_at hl 0 rfl) ?_
      refine x_cVv (As := []) (rest := []) hM hG xml_X12_201 xwi_X12_wrong xws_X12_wrong xmt_0 (by decide) rfl h (fun S' v e => c_X12_wrong hM.2.2.2.2.2.2.1 e _) ⟨Nat.le_of_ble_eq_true rfl, Nat.le_of_ble_eq_true rfl⟩ rfl hl.1 rfl (Nat.le_of_ble_eq_true rfl) dX12_readText_83 (fun S_6 v_7 H locs h hG => ?_)
      exact w_X12_readText_86 hM hr hlk h (fun t0 e => k0 t0 e) hG (lv_sub hl [0, 1] rfl)
set_option maxHeartbeats 4000000 in
set_option maxRecDepth 100000 in
theorem w_X12_readText_31 {x1 : Int32} (hM : xM p c cX12_readText m s args RX12 3 D cy xmb a z) (hr : meth.sig.returnType = (some .int)) (hlk : meth.locks = false) {S' : xSt} {v' : Int32} {S : xSt} {q : (xSt ⊕ (xSt × Int32))} (h : f_X12_readText_31 x1 S = some q) (k0 : ∀ t0 : xSt × Int32, q = (.inr t0) → t0 = (S', v')) (k1 : ∀ (S : xSt) , q = (.inl S) → ∀ (H : Heap) (locs : List Loc) (ls : Array Slot), xG D cy xmb a S s H locs → lv_has ls 3 [(0, .ref (a 0)), (1, .int x1)] → W p l e ({ frames := 74, cells := 0, slots := 0, locals := 1555 } : Room) s m args below meth c H locs 0 0 (MQ below (xQi D cy xmb a S' v' s.heap.size) args s 0 0 (xA xmb a s.heap.size)) (F0 m 31 ls [])) {H : Heap} {locs : List Loc} (hG : xG D cy xmb a S s H locs) {ls : Array Slot} (hl : lv_has ls 3 [(0, .ref (a 0)), (1, .int x1)]) : W p l e ({ frames := 74, cells := 0, slots := 0, locals := 1555 } : Room) s m args below meth c H locs 0 0 (MQ below (xQi D cy xmb a S' v' s.heap.size) args s 0 0 (xA xmb a s.heap.size)) (F0 m 31 ls []) := by
  have hx := hM.1
  have hb := hM.2.1
  refine lv_aload_n hx hb dX12_readText_31 rfl (lv_at hl 0 rfl) ?_
  refine x_gi hM hG xfl_X12_192 xmt_0 (by decide) rfl h dX12_readText_32 (fun v_1 h => ?_)
  refine x_if_ge (tgt := 64) hM h dX12_readText_35 (by decide) (fun c_2 h => ?_) (fun c_2 h => ?_)
  · obtain ⟨q1, h, e1⟩ := xmr_at h
    exact w_X12_readText_64 hM hr hlk h (fun t0 e => k0 t0 (by rw [e1, e])) hG (lv_sub hl [0, 1] rfl)
  · refine lv_aload_n hx hb dX12_readText_38 rfl (lv_at hl 0 rfl) ?_
    refine x_cVi (As := []) (rest := []) hM hG xml_X12_204 xwi_X12_look xws_X12_look xmt_0 (by decide) rfl h (fun S' v e => c_X12_look hM.2.2.2.2.2.2.1 e _) ⟨Nat.le_of_ble_eq_true rfl, Nat.le_of_ble_eq_true rfl⟩ rfl hl.1 rfl (Nat.le_of_ble_eq_true rfl) dX12_readText_39 (fun S_3 v_4 H locs h hG => ?_)
    refine lv_bipush (v := (59 : Int32)) hx hb dX12_readText_42 (by decide) ?_
    refine x_icmp_ne (tgt := 64) hM h dX12_readText_44 (by decide) (fun c_5 h => ?_) (fun c_5 h => ?_)
    · obtain ⟨q1, h, e1⟩ := xmr_at h
      exact w_X12_readText_64 hM hr hlk h (fun t0 e => k0 t0 (by rw [e1, e])) hG (lv_sub hl [0, 1] rfl)
    · refine lv_aload_n hx hb dX12_readText_47 rfl (lv_at hl 0 rfl) ?_
      refine lv_dup hx hb dX12_readText_48 rfl ?_
      refine x_gi hM hG xfl_X12_189 xmt_0 (by decide) rfl h dX12_readText_49 (fun v_6 h => ?_)
      refine lv_iconst (v := (1 : Int32)) hx hb dX12_readText_52 (by decide) ?_
      refine x_iadd hM h dX12_readText_53 (fun v_7 h => ?_)
      refine x_pi hM hG xfl_X12_189 xfp_X12_18 xmt_0 (by decide) rfl rfl rfl h dX12_readText_54 (fun S_8 H locs h hG => ?_)
      refine lv_aload_n hx hb dX12_readText_57 rfl (lv_at hl 0 rfl) ?_
      refine x_cVv (As := []) (rest := []) hM hG xml_X12_241 xwi_X12_line xws_X12_line xmt_0 (by decide) rfl h (fun S' v e => c_X12_line hM.2.2.2.2.2.2.1 e _) ⟨Nat.le_of_ble_eq_true rfl, Nat.le_of_ble_eq_true rfl⟩ rfl hl.1 rfl (Nat.le_of_ble_eq_true rfl) dX12_readText_58 (fun S_9 v_10 H locs h hG => ?_)
      refine lv_goto (tgt := 31) hx hb dX12_readText_61 (by decide) ?_
      exact k1 _ (Option.some.inj h).symm _ _ _ hG (lv_sub hl [0, 1] rfl)
theorem wl_X12_readText_31 {x1 : Int32} (hM : xM p c cX12_readText m s args RX12 3 D cy xmb a z) (hr : meth.sig.returnType = (some .int)) (hlk : meth.locks = false) {S' : xSt} {v' : Int32} {q : (xSt × Int32)} (k0 : ∀ t0 : xSt × Int32, q = t0 → t0 = (S', v')) (n : Nat) : ∀ (S : xSt)  (H : Heap) (locs : List Loc) (ls : Array Slot), xlp (fun q : xSt => f_X12_readText_31 x1 q) n S = some q → xG D cy xmb a S s H locs → lv_has ls 3 [(0, .ref (a 0)), (1, .int x1)] → W p l e ({ frames := 74, cells := 0, slots := 0, locals := 1555 } : Room) s m args below meth c H locs 0 0 (MQ below (xQi D cy xmb a S' v' s.heap.size) args s 0 0 (xA xmb a s.heap.size)) (F0 m 31 ls []) := by
  induction n with
  | zero => intro S H locs ls h; exact (xlp_0 h).elim
  | succ n ih =>
    intro S H locs ls h hG hl
    obtain ⟨q1, hq, hc, he⟩ := xlp_at h
    exact w_X12_readText_31 hM hr hlk (q := q1) hq (fun t0 e => k0 t0 (he _ e).symm) (fun S e H locs ls hG hl => ih S H locs ls (hc _ e) hG hl) hG hl
set_option maxHeartbeats 4000000 in
set_option maxRecDepth 100000 in
theorem w_X12_readText_0 {x1 : Int32} (hM : xM p c cX12_readText m s args RX12 3 D cy xmb a z) (hr : meth.sig.returnType = (some .int)) (hlk : meth.locks = false) {S' : xSt} {v' : Int32} {S : xSt} {q : (xSt × Int32)} (h : f_X12_readText_0 x1 S = some q) (k0 : ∀ t0 : xSt × Int32, q = t0 → t0 = (S', v')) {H : Heap} {locs : List Loc} (hG : xG D cy xmb a S s H locs) {ls : Array Slot} (hl : lv_has ls 3 [(0, .ref (a 0)), (1, .int x1)]) : W p l e ({ frames := 74, cells := 0, slots := 0, locals := 1555 } : Room) s m args below meth c H locs 0 0 (MQ below (xQi D cy xmb a S' v' s.heap.size) args s 0 0 (xA xmb a s.heap.size)) (F0 m 0 ls []) := by
  have hx := hM.1
  have hb := hM.2.1
  refine lv_aload_n hx hb dX12_readText_0 rfl (lv_at hl 0 rfl) ?_
  refine lv_iconst (v := (0 : Int32)) hx hb dX12_readText_1 (by decide) ?_
  refine x_pi hM hG xfl_X12_189 xfp_X12_18 xmt_0 (by decide) rfl rfl rfl h dX12_readText_2 (fun S_1 H locs h hG => ?_)
  refine lv_aload_n hx hb dX12_readText_5 rfl (lv_at hl 0 rfl) ?_
  refine lv_iconst (v := (-1 : Int32)) hx hb dX12_readText_6 (by decide) ?_
  refine x_pi hM hG xfl_X12_192 xfp_X12_19 xmt_0 (by decide) rfl rfl rfl h dX12_readText_7 (fun S_2 H locs h hG => ?_)
  refine lv_aload_n hx hb dX12_readText_10 rfl (lv_at hl 0 rfl) ?_
  refine lv_iconst (v := (0 : Int32)) hx hb dX12_readText_11 (by decide) ?_
  refine x_pi hM hG xfl_X12_198 xfp_X12_20 xmt_0 (by decide) rfl rfl rfl h dX12_readText_12 (fun S_3 H locs h hG => ?_)
  refine lv_aload_n hx hb dX12_readText_15 rfl (lv_at hl 0 rfl) ?_
  refine lv_iconst (v := (0 : Int32)) hx hb dX12_readText_16 (by decide) ?_
  refine x_pi hM hG xfl_X12_195 xfp_X12_21 xmt_0 (by decide) rfl rfl rfl h dX12_readText_17 (fun S_4 H locs h hG => ?_)
  refine lv_aload_n hx hb dX12_readText_20 rfl (lv_at hl 0 rfl) ?_
  refine x_gr (r := 17) hM hG xfl_X12_61 xmt_0 (by decide) rfl dX12_readText_21 ?_
  refine lv_iconst (v := (1 : Int32)) hx hb dX12_readText_24 (by decide) ?_
  refine lv_iconst (v := (0 : Int32)) hx hb dX12_readText_25 (by decide) ?_
  refine x_iast hM hG xmt_17 h dX12_readText_26 (fun S_5 H locs h hG => ?_)
  refine lv_aload_n hx hb dX12_readText_27 rfl (lv_at hl 0 rfl) ?_
  refine x_cVv (As := []) (rest := []) hM hG xml_X12_241 xwi_X12_line xws_X12_line xmt_0 (by decide) rfl h (fun S' v e => c_X12_line hM.2.2.2.2.2.2.1 e _) ⟨Nat.le_of_ble_eq_true rfl, Nat.le_of_ble_eq_true rfl⟩ rfl hl.1 rfl (Nat.le_of_ble_eq_true rfl) dX12_readText_28 (fun S_6 v_7 H locs h hG => ?_)
  exact wl_X12_readText_31 hM hr hlk (fun t0 e => k0 t0 e) 5000 _ _ _ _ h hG (lv_sub hl [0, 1] rfl)
set_option maxHeartbeats 4000000 in
set_option maxRecDepth 100000 in
theorem c_X12_readText {l : Launch} {D : va_G} {cy : Nat → ClassId} {a z : Nat → Nat} (hI : xI xmb a) {S : xSt} {x1 : Int32} {S' : xSt} {v' : Int32} (hf : f_X12_readText S x1 = some (S', v')) (sz : Nat) : Met l yX12_readText (Cond.code yX12_readText cX12_readText 3 (some .int) :: xTB) ({ frames := 74, cells := 0, slots := 0, locals := 1555 } : Room) (va_Pc [.ref (a 0), .int x1] (xPre D cy xmb a z S sz)) (xQi D cy xmb a S' v' sz) 0 0 (xA xmb a sz) := by
  refine Met.ofW (cc := cX12_readText) (maxL := 3) (ret := (some .int)) (by decide) rfl ?_
  intro p e s m args below meth c s₁ B hml hv
  obtain ⟨rfl, hsz, hP, hK, hE⟩ := hv
  subst hsz
  have hl := lv_entry ([.ref (a 0), .int x1]) (n := 3) (Nat.le_of_ble_eq_true rfl)
  rw [lg_entry_eq]
  generalize (lg_sl ([.ref (a 0), .int x1]) ++ List.replicate (3 - (lg_sl ([.ref (a 0), .int x1])).length) Slot.unset).toArray = ls at hl ⊢
  have hl : lv_has ls 3 [(0, .ref (a 0)), (1, .int x1)] := hl
  exact w_X12_readText_0 ⟨B.exec, B.bytes, hml, findClass_of_methodNamed B.named, fun w hw => atoms_spec (ws := Cond.code yX12_readText cX12_readText 3 (some .int) :: xTB) B.pre w (List.mem_cons_of_mem _ hw), hK, hI, hE⟩ B.returns B.notSynchronized hf (fun t0 e => e.symm) ⟨hP, va_S.rf⟩ (lv_sub hl [0, 1] rfl)
set_option maxHeartbeats 4000000 in
set_option maxRecDepth 100000 in
theorem w_X12_twoOf_163 (hM : xM p c cX12_twoOf m s args RX12 3 D cy xmb a z) (hr : meth.sig.returnType = (some .int)) (hlk : meth.locks = false) {S' : xSt} {v' : Int32} {S : xSt} {q : (xSt × Int32)} (h : f_X12_twoOf_163 S = some q) (k0 : ∀ t0 : xSt × Int32, q = t0 → t0 = (S', v')) {H : Heap} {locs : List Loc} (hG : xG D cy xmb a S s H locs) {ls : Array Slot} (hl : lv_has ls 3 []) : W p l e ({ frames := 0, cells := 0, slots := 0, locals := 0 } : Room) s m args below meth c H locs 0 0 (MQ below (xQi D cy xmb a S' v' s.heap.size) args s 0 0 (xA xmb a s.heap.size)) (F0 m 163 ls []) := by
  have hx := hM.1
  have hb := hM.2.1
  refine lv_iconst (v := (0 : Int32)) hx hb dX12_twoOf_163 (by decide) ?_
  refine lv_goto (tgt := 170) hx hb dX12_twoOf_164 (by decide) ?_
  exact x_ri hM hG hr hlk rfl (k0 _ (Option.some.inj h).symm) dX12_twoOf_170
set_option maxHeartbeats 4000000 in
set_option maxRecDepth 100000 in
theorem w_X12_twoOf_216 (hM : xM p c cX12_twoOf m s args RX12 3 D cy xmb a z) (hr : meth.sig.returnType = (some .int)) (hlk : meth.locks = false) {S' : xSt} {v' : Int32} {S : xSt} {q : (xSt × Int32)} (h : f_X12_twoOf_216 S = some q) (k0 : ∀ t0 : xSt × Int32, q = t0 → t0 = (S', v')) {H : Heap} {locs : List Loc} (hG : xG D cy xmb a S s H locs) {ls : Array Slot} (hl : lv_has ls 3 []) : W p l e ({ frames := 0, cells := 0, slots := 0, locals := 0 } : Room) s m args below meth c H locs 0 0 (MQ below (xQi D cy xmb a S' v' s.heap.size) args s 0 0 (xA xmb a s.heap.size)) (F0 m 216 ls []) := by
  have hx := hM.1
  have hb := hM.2.1
  refine lv_iconst (v := (0 : Int32)) hx hb dX12_twoOf_216 (by decide) ?_
  exact x_ri hM hG hr hlk rfl (k0 _ (Option.some.inj h).symm) dX12_twoOf_217
set_option maxHeartbeats 4000000 in
set_option maxRecDepth 100000 in
theorem w_X12_twoOf_226 (hM : xM p c cX12_twoOf m s args RX12 3 D cy xmb a z) (hr : meth.sig.returnType = (some .int)) (hlk : meth.locks = false) {S' : xSt} {v' : Int32} {S : xSt} {q : (xSt × Int32)} (h : f_X12_twoOf_226 S = some q) (k0 : ∀ t0 : xSt × Int32, q = t0 → t0 = (S', v')) {H : Heap} {locs : List Loc} (hG : xG D cy xmb a S s H locs) {ls : Array Slot} (hl : lv_has ls 3 []) : W p l e ({ frames := 0, cells := 0, slots := 0, locals := 0 } : Room) s m args below meth c H locs 0 0 (MQ below (xQi D cy xmb a S' v' s.heap.size) args s 0 0 (xA xmb a s.heap.size)) (F0 m 226 ls []) := by
  have hx := hM.1
  have hb := hM.2.1
  refine lv_iconst (v := (1 : Int32)) hx hb dX12_twoOf_226 (by decide) ?_
  refine lv_goto (tgt := 231) hx hb dX12_twoOf_227 (by decide) ?_
  exact x_ri hM hG hr hlk rfl (k0 _ (Option.some.inj h).symm) dX12_twoOf_231
set_option maxHeartbeats 4000000 in
set_option maxRecDepth 100000 in
theorem w_X12_twoOf_0 {x0 : Int32} {x1 : Int32} {x2 : Int32} (hM : xM p c cX12_twoOf m s args RX12 3 D cy xmb a z) (hr : meth.sig.returnType = (some .int)) (hlk : meth.locks = false) {S' : xSt} {v' : Int32} {S : xSt} {q : (xSt × Int32)} (h : f_X12_twoOf_0 x0 x1 x2 S = some q) (k0 : ∀ t0 : xSt × Int32, q = t0 → t0 = (S', v')) {H : Heap} {locs : List Loc} (hG : xG D cy xmb a S s H locs) {ls : Array Slot} (hl : lv_has ls 3 [(0, .int x0), (1, .int x1), (2, .int x2)]) : W p l e ({ frames := 0, cells := 0, slots := 0, locals := 0 } : Room) s m args below meth c H locs 0 0 (MQ below (xQi D cy xmb a S' v' s.heap.size) args s 0 0 (xA xmb a s.heap.size)) (F0 m 0 ls []) := by
  have hx := hM.1
  have hb := hM.2.1
  refine lv_iload_n hx hb dX12_twoOf_0 rfl (lv_at hl 0 rfl) ?_
  by_cases c_1 : x0 = (37 : Int32)
  · have h := (if_pos c_1).symm.trans h
    refine lv_tableIn (off := 153) (tgt := 154) hx hb dX12_twoOf_1 (by rw [c_1]; decide) (by rw [c_1]; decide) (by rw [c_1]; rfl) (by decide) ?_
    refine lv_iload_n hx hb dX12_twoOf_154 rfl (lv_at hl 2 rfl) ?_
    refine x_if_eq (tgt := 163) hM h dX12_twoOf_155 (by decide) (fun c_2 h => ?_) (fun c_2 h => ?_)
    · exact w_X12_twoOf_163 hM hr hlk h (fun t0 e => k0 t0 e) hG (lv_sub hl [] rfl)
    · refine lv_iload_n hx hb dX12_twoOf_158 rfl (lv_at hl 2 rfl) ?_
      refine lv_iconst (v := (-1 : Int32)) hx hb dX12_twoOf_159 (by decide) ?_
      refine x_icmp_ne (tgt := 167) hM h dX12_twoOf_160 (by decide) (fun c_3 h => ?_) (fun c_3 h => ?_)
      · refine lv_iload_n hx hb dX12_twoOf_167 rfl (lv_at hl 1 rfl) ?_
        refine lv_iload_n hx hb dX12_twoOf_168 rfl (lv_at hl 2 rfl) ?_
        refine x_irem hM h dX12_twoOf_169 (fun v_4 h => ?_)
        exact x_ri hM hG hr hlk rfl (k0 _ (Option.some.inj h).symm) dX12_twoOf_170
      · exact w_X12_twoOf_163 hM hr hlk h (fun t0 e => k0 t0 e) hG (lv_sub hl [] rfl)
  · have h := (if_neg c_1).symm.trans h
    by_cases c_5 : x0 = (38 : Int32)
    · have h := (if_pos c_5).symm.trans h
      refine lv_tableIn (off := 203) (tgt := 204) hx hb dX12_twoOf_1 (by rw [c_5]; decide) (by rw [c_5]; decide) (by rw [c_5]; rfl) (by decide) ?_
      refine lv_iload_n hx hb dX12_twoOf_204 rfl (lv_at hl 1 rfl) ?_
      refine x_if_eq (tgt := 216) hM h dX12_twoOf_205 (by decide) (fun c_6 h => ?_) (fun c_6 h => ?_)
      · exact w_X12_twoOf_216 hM hr hlk h (fun t0 e => k0 t0 e) hG (lv_sub hl [] rfl)
      · refine lv_iload_n hx hb dX12_twoOf_208 rfl (lv_at hl 2 rfl) ?_
        refine x_if_eq (tgt := 216) hM h dX12_twoOf_209 (by decide) (fun c_7 h => ?_) (fun c_7 h => ?_)
        · exact w_X12_twoOf_216 hM hr hlk h (fun t0 e => k0 t0 e) hG (lv_sub hl [] rfl)
        · refine lv_iconst (v := (1 : Int32)) hx hb dX12_twoOf_212 (by decide) ?_
          refine lv_goto (tgt := 217) hx hb dX12_twoOf_213 (by decide) ?_
          exact x_ri hM hG hr hlk rfl (k0 _ (Option.some.inj h).symm) dX12_twoOf_217
    · have h := (if_neg c_5).symm.trans h
      by_cases c_8 : x0 = (39 : Int32)
      · have h := (if_pos c_8).symm.trans h
        refine lv_tableIn (off := 217) (tgt := 218) hx hb dX12_twoOf_1 (by rw [c_8]; decide) (by rw [c_8]; decide) (by rw [c_8]; rfl) (by decide) ?_
        refine lv_iload_n hx hb dX12_twoOf_218 rfl (lv_at hl 1 rfl) ?_
        refine x_if_ne (tgt := 226) hM h dX12_twoOf_219 (by decide) (fun c_9 h => ?_) (fun c_9 h => ?_)
        · exact w_X12_twoOf_226 hM hr hlk h (fun t0 e => k0 t0 e) hG (lv_sub hl [] rfl)
        · refine lv_iload_n hx hb dX12_twoOf_222 rfl (lv_at hl 2 rfl) ?_
          refine x_if_eq (tgt := 230) hM h dX12_twoOf_223 (by decide) (fun c_10 h => ?_) (fun c_10 h => ?_)
          · refine lv_iconst (v := (0 : Int32)) hx hb dX12_twoOf_230 (by decide) ?_
            exact x_ri hM hG hr hlk rfl (k0 _ (Option.some.inj h).symm) dX12_twoOf_231
          · exact w_X12_twoOf_226 hM hr hlk h (fun t0 e => k0 t0 e) hG (lv_sub hl [] rfl)
      · have h := (if_neg c_8).symm.trans h
        by_cases c_11 : x0 = (40 : Int32)
        · have h := (if_pos c_11).symm.trans h
          refine lv_tableIn (off := 217) (tgt := 218) hx hb dX12_twoOf_1 (by rw [c_11]; decide) (by rw [c_11]; decide) (by rw [c_11]; rfl) (by decide) ?_
          refine lv_iload_n hx hb dX12_twoOf_218 rfl (lv_at hl 1 rfl) ?_
          refine x_if_ne (tgt := 226) hM h dX12_twoOf_219 (by decide) (fun c_12 h => ?_) (fun c_12 h => ?_)
          · exact w_X12_twoOf_226 hM hr hlk h (fun t0 e => k0 t0 e) hG (lv_sub hl [] rfl)
          · refine lv_iload_n hx hb dX12_twoOf_222 rfl (lv_at hl 2 rfl) ?_
            refine x_if_eq (tgt := 230) hM h dX12_twoOf_223 (by decide) (fun c_13 h => ?_) (fun c_13 h => ?_)
            · refine lv_iconst (v := (0 : Int32)) hx hb dX12_twoOf_230 (by decide) ?_
              exact x_ri hM hG hr hlk rfl (k0 _ (Option.some.inj h).symm) dX12_twoOf_231
            · exact w_X12_twoOf_226 hM hr hlk h (fun t0 e => k0 t0 e) hG (lv_sub hl [] rfl)
        · have h := (if_neg c_11).symm.trans h
          by_cases c_14 : x0 = (41 : Int32)
          · have h := (if_pos c_14).symm.trans h
            refine lv_tableIn (off := 217) (tgt := 218) hx hb dX12_twoOf_1 (by rw [c_14]; decide) (by rw [c_14]; decide) (by rw [c_14]; rfl) (by decide) ?_
            refine lv_iload_n hx hb dX12_twoOf_218 rfl (lv_at hl 1 rfl) ?_
            refine x_if_ne (tgt := 226) hM h dX12_twoOf_219 (by decide) (fun c_15 h => ?_) (fun c_15 h => ?_)
            · exact w_X12_twoOf_226 hM hr hlk h (fun t0 e => k0 t0 e) hG (lv_sub hl [] rfl)
            · refine lv_iload_n hx hb dX12_twoOf_222 rfl (lv_at hl 2 rfl) ?_
              refine x_if_eq (tgt := 230) hM h dX12_twoOf_223 (by decide) (fun c_16 h => ?_) (fun c_16 h => ?_)
              · refine lv_iconst (v := (0 : Int32)) hx hb dX12_twoOf_230 (by decide) ?_
                exact x_ri hM hG hr hlk rfl (k0 _ (Option.some.inj h).symm) dX12_twoOf_231
              · exact w_X12_twoOf_226 hM hr hlk h (fun t0 e => k0 t0 e) hG (lv_sub hl [] rfl)
          · have h := (if_neg c_14).symm.trans h
            by_cases c_17 : x0 = (42 : Int32)
            · have h := (if_pos c_17).symm.trans h
              refine lv_tableIn (off := 127) (tgt := 128) hx hb dX12_twoOf_1 (by rw [c_17]; decide) (by rw [c_17]; decide) (by rw [c_17]; rfl) (by decide) ?_
              refine lv_iload_n hx hb dX12_twoOf_128 rfl (lv_at hl 1 rfl) ?_
              refine lv_iload_n hx hb dX12_twoOf_129 rfl (lv_at hl 2 rfl) ?_
              refine x_imul hM h dX12_twoOf_130 (fun v_18 h => ?_)
              exact x_ri hM hG hr hlk rfl (k0 _ (Option.some.inj h).symm) dX12_twoOf_131
            · have h := (if_neg c_17).symm.trans h
              by_cases c_19 : x0 = (43 : Int32)
              · have h := (if_pos c_19).symm.trans h
                refine lv_tableIn (off := 119) (tgt := 120) hx hb dX12_twoOf_1 (by rw [c_19]; decide) (by rw [c_19]; decide) (by rw [c_19]; rfl) (by decide) ?_
                refine lv_iload_n hx hb dX12_twoOf_120 rfl (lv_at hl 1 rfl) ?_
                refine lv_iload_n hx hb dX12_twoOf_121 rfl (lv_at hl 2 rfl) ?_
                refine x_iadd hM h dX12_twoOf_122 (fun v_20 h => ?_)
                exact x_ri hM hG hr hlk rfl (k0 _ (Option.some.inj h).symm) dX12_twoOf_123
              · have h := (if_neg c_19).symm.trans h
                by_cases c_21 : x0 = (44 : Int32)
                · have h := (if_pos c_21).symm.trans h
                  refine lv_tableIn (off := 217) (tgt := 218) hx hb dX12_twoOf_1 (by rw [c_21]; decide) (by rw [c_21]; decide) (by rw [c_21]; rfl) (by decide) ?_
                  refine lv_iload_n hx hb dX12_twoOf_218 rfl (lv_at hl 1 rfl) ?_
                  refine x_if_ne (tgt := 226) hM h dX12_twoOf_219 (by decide) (fun c_22 h => ?_) (fun c_22 h => ?_)
                  · exact w_X12_twoOf_226 hM hr hlk h (fun t0 e => k0 t0 e) hG (lv_sub hl [] rfl)
                  · refine lv_iload_n hx hb dX12_twoOf_222 rfl (lv_at hl 2 rfl) ?_
                    refine x_if_eq (tgt := 230) hM h dX12_twoOf_223 (by decide) (fun c_23 h => ?_) (fun c_23 h => ?_)
                    · refine lv_iconst (v := (0 : Int32)) hx hb dX12_twoOf_230 (by decide) ?_
                      exact x_ri hM hG hr hlk rfl (k0 _ (Option.some.inj h).symm) dX12_twoOf_231
                    · exact w_X12_twoOf_226 hM hr hlk h (fun t0 e => k0 t0 e) hG (lv_sub hl [] rfl)
                · have h := (if_neg c_21).symm.trans h
                  by_cases c_24 : x0 = (45 : Int32)
                  · have h := (if_pos c_24).symm.trans h
                    refine lv_tableIn (off := 123) (tgt := 124) hx hb dX12_twoOf_1 (by rw [c_24]; decide) (by rw [c_24]; decide) (by rw [c_24]; rfl) (by decide) ?_
                    refine lv_iload_n hx hb dX12_twoOf_124 rfl (lv_at hl 1 rfl) ?_
                    refine lv_iload_n hx hb dX12_twoOf_125 rfl (lv_at hl 2 rfl) ?_
                    refine x_isub hM h dX12_twoOf_126 (fun v_25 h => ?_)
                    exact x_ri hM hG hr hlk rfl (k0 _ (Option.some.inj h).symm) dX12_twoOf_127
                  · have h := (if_neg c_24).symm.trans h
                    by_cases c_26 : x0 = (46 : Int32)
                    · have h := (if_pos c_26).symm.trans h
                      refine lv_tableIn (off := 217) (tgt := 218) hx hb dX12_twoOf_1 (by rw [c_26]; decide) (by rw [c_26]; decide) (by rw [c_26]; rfl) (by decide) ?_
                      refine lv_iload_n hx hb dX12_twoOf_218 rfl (lv_at hl 1 rfl) ?_
                      refine x_if_ne (tgt := 226) hM h dX12_twoOf_219 (by decide) (fun c_27 h => ?_) (fun c_27 h => ?_)
                      · exact w_X12_twoOf_226 hM hr hlk h (fun t0 e => k0 t0 e) hG (lv_sub hl [] rfl)
                      · refine lv_iload_n hx hb dX12_twoOf_222 rfl (lv_at hl 2 rfl) ?_
                        refine x_if_eq (tgt := 230) hM h dX12_twoOf_223 (by decide) (fun c_28 h => ?_) (fun c_28 h => ?_)
                        · refine lv_iconst (v := (0 : Int32)) hx hb dX12_twoOf_230 (by decide) ?_
                          exact x_ri hM hG hr hlk rfl (k0 _ (Option.some.inj h).symm) dX12_twoOf_231
                        · exact w_X12_twoOf_226 hM hr hlk h (fun t0 e => k0 t0 e) hG (lv_sub hl [] rfl)
                    · have h := (if_neg c_26).symm.trans h
                      by_cases c_29 : x0 = (47 : Int32)
                      · have h := (if_pos c_29).symm.trans h
                        refine lv_tableIn (off := 131) (tgt := 132) hx hb dX12_twoOf_1 (by rw [c_29]; decide) (by rw [c_29]; decide) (by rw [c_29]; rfl) (by decide) ?_
                        refine lv_iload_n hx hb dX12_twoOf_132 rfl (lv_at hl 2 rfl) ?_
                        refine x_if_ne (tgt := 140) hM h dX12_twoOf_133 (by decide) (fun c_30 h => ?_) (fun c_30 h => ?_)
                        · refine lv_iload_n hx hb dX12_twoOf_140 rfl (lv_at hl 2 rfl) ?_
                          refine lv_iconst (v := (-1 : Int32)) hx hb dX12_twoOf_141 (by decide) ?_
                          refine x_icmp_ne (tgt := 150) hM h dX12_twoOf_142 (by decide) (fun c_31 h => ?_) (fun c_31 h => ?_)
                          · refine lv_iload_n hx hb dX12_twoOf_150 rfl (lv_at hl 1 rfl) ?_
                            refine lv_iload_n hx hb dX12_twoOf_151 rfl (lv_at hl 2 rfl) ?_
                            refine x_idiv hM h dX12_twoOf_152 (fun v_32 h => ?_)
                            exact x_ri hM hG hr hlk rfl (k0 _ (Option.some.inj h).symm) dX12_twoOf_153
                          · refine lv_iload_n hx hb dX12_twoOf_145 rfl (lv_at hl 1 rfl) ?_
                            refine x_ineg hM h dX12_twoOf_146 (fun v_33 h => ?_)
                            refine lv_goto (tgt := 153) hx hb dX12_twoOf_147 (by decide) ?_
                            exact x_ri hM hG hr hlk rfl (k0 _ (Option.some.inj h).symm) dX12_twoOf_153
                        · refine lv_iconst (v := (0 : Int32)) hx hb dX12_twoOf_136 (by decide) ?_
                          refine lv_goto (tgt := 153) hx hb dX12_twoOf_137 (by decide) ?_
                          exact x_ri hM hG hr hlk rfl (k0 _ (Option.some.inj h).symm) dX12_twoOf_153
                      · have h := (if_neg c_29).symm.trans h
                        by_cases c_34 : x0 = (48 : Int32)
                        · have h := (if_pos c_34).symm.trans h
                          refine lv_tableIn (off := 217) (tgt := 218) hx hb dX12_twoOf_1 (by rw [c_34]; decide) (by rw [c_34]; decide) (by rw [c_34]; rfl) (by decide) ?_
                          refine lv_iload_n hx hb dX12_twoOf_218 rfl (lv_at hl 1 rfl) ?_
                          refine x_if_ne (tgt := 226) hM h dX12_twoOf_219 (by decide) (fun c_35 h => ?_) (fun c_35 h => ?_)
                          · exact w_X12_twoOf_226 hM hr hlk h (fun t0 e => k0 t0 e) hG (lv_sub hl [] rfl)
                          · refine lv_iload_n hx hb dX12_twoOf_222 rfl (lv_at hl 2 rfl) ?_
                            refine x_if_eq (tgt := 230) hM h dX12_twoOf_223 (by decide) (fun c_36 h => ?_) (fun c_36 h => ?_)
                            · refine lv_iconst (v := (0 : Int32)) hx hb dX12_twoOf_230 (by decide) ?_
                              exact x_ri hM hG hr hlk rfl (k0 _ (Option.some.inj h).symm) dX12_twoOf_231
                            · exact w_X12_twoOf_226 hM hr hlk h (fun t0 e => k0 t0 e) hG (lv_sub hl [] rfl)
                        · have h := (if_neg c_34).symm.trans h
                          by_cases c_37 : x0 = (49 : Int32)
                          · have h := (if_pos c_37).symm.trans h
                            refine lv_tableIn (off := 217) (tgt := 218) hx hb dX12_twoOf_1 (by rw [c_37]; decide) (by rw [c_37]; decide) (by rw [c_37]; rfl) (by decide) ?_
                            refine lv_iload_n hx hb dX12_twoOf_218 rfl (lv_at hl 1 rfl) ?_
                            refine x_if_ne (tgt := 226) hM h dX12_twoOf_219 (by decide) (fun c_38 h => ?_) (fun c_38 h => ?_)
                            · exact w_X12_twoOf_226 hM hr hlk h (fun t0 e => k0 t0 e) hG (lv_sub hl [] rfl)
                            · refine lv_iload_n hx hb dX12_twoOf_222 rfl (lv_at hl 2 rfl) ?_
                              refine x_if_eq (tgt := 230) hM h dX12_twoOf_223 (by decide) (fun c_39 h => ?_) (fun c_39 h => ?_)
                              · refine lv_iconst (v := (0 : Int32)) hx hb dX12_twoOf_230 (by decide) ?_
                                exact x_ri hM hG hr hlk rfl (k0 _ (Option.some.inj h).symm) dX12_twoOf_231
                              · exact w_X12_twoOf_226 hM hr hlk h (fun t0 e => k0 t0 e) hG (lv_sub hl [] rfl)
                          · have h := (if_neg c_37).symm.trans h
                            by_cases c_40 : x0 = (50 : Int32)
                            · have h := (if_pos c_40).symm.trans h
                              refine lv_tableIn (off := 217) (tgt := 218) hx hb dX12_twoOf_1 (by rw [c_40]; decide) (by rw [c_40]; decide) (by rw [c_40]; rfl) (by decide) ?_
                              refine lv_iload_n hx hb dX12_twoOf_218 rfl (lv_at hl 1 rfl) ?_
                              refine x_if_ne (tgt := 226) hM h dX12_twoOf_219 (by decide) (fun c_41 h => ?_) (fun c_41 h => ?_)
                              · exact w_X12_twoOf_226 hM hr hlk h (fun t0 e => k0 t0 e) hG (lv_sub hl [] rfl)
                              · refine lv_iload_n hx hb dX12_twoOf_222 rfl (lv_at hl 2 rfl) ?_
                                refine x_if_eq (tgt := 230) hM h dX12_twoOf_223 (by decide) (fun c_42 h => ?_) (fun c_42 h => ?_)
                                · refine lv_iconst (v := (0 : Int32)) hx hb dX12_twoOf_230 (by decide) ?_
                                  exact x_ri hM hG hr hlk rfl (k0 _ (Option.some.inj h).symm) dX12_twoOf_231
                                · exact w_X12_twoOf_226 hM hr hlk h (fun t0 e => k0 t0 e) hG (lv_sub hl [] rfl)
                            · have h := (if_neg c_40).symm.trans h
                              by_cases c_43 : x0 = (51 : Int32)
                              · have h := (if_pos c_43).symm.trans h
                                refine lv_tableIn (off := 217) (tgt := 218) hx hb dX12_twoOf_1 (by rw [c_43]; decide) (by rw [c_43]; decide) (by rw [c_43]; rfl) (by decide) ?_
                                refine lv_iload_n hx hb dX12_twoOf_218 rfl (lv_at hl 1 rfl) ?_
                                refine x_if_ne (tgt := 226) hM h dX12_twoOf_219 (by decide) (fun c_44 h => ?_) (fun c_44 h => ?_)
                                · exact w_X12_twoOf_226 hM hr hlk h (fun t0 e => k0 t0 e) hG (lv_sub hl [] rfl)
                                · refine lv_iload_n hx hb dX12_twoOf_222 rfl (lv_at hl 2 rfl) ?_
                                  refine x_if_eq (tgt := 230) hM h dX12_twoOf_223 (by decide) (fun c_45 h => ?_) (fun c_45 h => ?_)
                                  · refine lv_iconst (v := (0 : Int32)) hx hb dX12_twoOf_230 (by decide) ?_
                                    exact x_ri hM hG hr hlk rfl (k0 _ (Option.some.inj h).symm) dX12_twoOf_231
                                  · exact w_X12_twoOf_226 hM hr hlk h (fun t0 e => k0 t0 e) hG (lv_sub hl [] rfl)
                              · have h := (if_neg c_43).symm.trans h
                                by_cases c_46 : x0 = (52 : Int32)
                                · have h := (if_pos c_46).symm.trans h
                                  refine lv_tableIn (off := 217) (tgt := 218) hx hb dX12_twoOf_1 (by rw [c_46]; decide) (by rw [c_46]; decide) (by rw [c_46]; rfl) (by decide) ?_
                                  refine lv_iload_n hx hb dX12_twoOf_218 rfl (lv_at hl 1 rfl) ?_
                                  refine x_if_ne (tgt := 226) hM h dX12_twoOf_219 (by decide) (fun c_47 h => ?_) (fun c_47 h => ?_)
                                  · exact w_X12_twoOf_226 hM hr hlk h (fun t0 e => k0 t0 e) hG (lv_sub hl [] rfl)
                                  · refine lv_iload_n hx hb dX12_twoOf_222 rfl (lv_at hl 2 rfl) ?_
                                    refine x_if_eq (tgt := 230) hM h dX12_twoOf_223 (by decide) (fun c_48 h => ?_) (fun c_48 h => ?_)
                                    · refine lv_iconst (v := (0 : Int32)) hx hb dX12_twoOf_230 (by decide) ?_
                                      exact x_ri hM hG hr hlk rfl (k0 _ (Option.some.inj h).symm) dX12_twoOf_231
                                    · exact w_X12_twoOf_226 hM hr hlk h (fun t0 e => k0 t0 e) hG (lv_sub hl [] rfl)
                                · have h := (if_neg c_46).symm.trans h
                                  by_cases c_49 : x0 = (53 : Int32)
                                  · have h := (if_pos c_49).symm.trans h
                                    refine lv_tableIn (off := 217) (tgt := 218) hx hb dX12_twoOf_1 (by rw [c_49]; decide) (by rw [c_49]; decide) (by rw [c_49]; rfl) (by decide) ?_
                                    refine lv_iload_n hx hb dX12_twoOf_218 rfl (lv_at hl 1 rfl) ?_
                                    refine x_if_ne (tgt := 226) hM h dX12_twoOf_219 (by decide) (fun c_50 h => ?_) (fun c_50 h => ?_)
                                    · exact w_X12_twoOf_226 hM hr hlk h (fun t0 e => k0 t0 e) hG (lv_sub hl [] rfl)
                                    · refine lv_iload_n hx hb dX12_twoOf_222 rfl (lv_at hl 2 rfl) ?_
                                      refine x_if_eq (tgt := 230) hM h dX12_twoOf_223 (by decide) (fun c_51 h => ?_) (fun c_51 h => ?_)
                                      · refine lv_iconst (v := (0 : Int32)) hx hb dX12_twoOf_230 (by decide) ?_
                                        exact x_ri hM hG hr hlk rfl (k0 _ (Option.some.inj h).symm) dX12_twoOf_231
                                      · exact w_X12_twoOf_226 hM hr hlk h (fun t0 e => k0 t0 e) hG (lv_sub hl [] rfl)
                                  · have h := (if_neg c_49).symm.trans h
                                    by_cases c_52 : x0 = (54 : Int32)
                                    · have h := (if_pos c_52).symm.trans h
                                      refine lv_tableIn (off := 217) (tgt := 218) hx hb dX12_twoOf_1 (by rw [c_52]; decide) (by rw [c_52]; decide) (by rw [c_52]; rfl) (by decide) ?_
                                      refine lv_iload_n hx hb dX12_twoOf_218 rfl (lv_at hl 1 rfl) ?_
                                      refine x_if_ne (tgt := 226) hM h dX12_twoOf_219 (by decide) (fun c_53 h => ?_) (fun c_53 h => ?_)
                                      · exact w_X12_twoOf_226 hM hr hlk h (fun t0 e => k0 t0 e) hG (lv_sub hl [] rfl)
                                      · refine lv_iload_n hx hb dX12_twoOf_222 rfl (lv_at hl 2 rfl) ?_
                                        refine x_if_eq (tgt := 230) hM h dX12_twoOf_223 (by decide) (fun c_54 h => ?_) (fun c_54 h => ?_)
                                        · refine lv_iconst (v := (0 : Int32)) hx hb dX12_twoOf_230 (by decide) ?_
                                          exact x_ri hM hG hr hlk rfl (k0 _ (Option.some.inj h).symm) dX12_twoOf_231
                                        · exact w_X12_twoOf_226 hM hr hlk h (fun t0 e => k0 t0 e) hG (lv_sub hl [] rfl)
                                    · have h := (if_neg c_52).symm.trans h
                                      by_cases c_55 : x0 = (55 : Int32)
                                      · have h := (if_pos c_55).symm.trans h
                                        refine lv_tableIn (off := 217) (tgt := 218) hx hb dX12_twoOf_1 (by rw [c_55]; decide) (by rw [c_55]; decide) (by rw [c_55]; rfl) (by decide) ?_
                                        refine lv_iload_n hx hb dX12_twoOf_218 rfl (lv_at hl 1 rfl) ?_
                                        refine x_if_ne (tgt := 226) hM h dX12_twoOf_219 (by decide) (fun c_56 h => ?_) (fun c_56 h => ?_)
                                        · exact w_X12_twoOf_226 hM hr hlk h (fun t0 e => k0 t0 e) hG (lv_sub hl [] rfl)
                                        · refine lv_iload_n hx hb dX12_twoOf_222 rfl (lv_at hl 2 rfl) ?_
                                          refine x_if_eq (tgt := 230) hM h dX12_twoOf_223 (by decide) (fun c_57 h => ?_) (fun c_57 h => ?_)
                                          · refine lv_iconst (v := (0 : Int32)) hx hb dX12_twoOf_230 (by decide) ?_
                                            exact x_ri hM hG hr hlk rfl (k0 _ (Option.some.inj h).symm) dX12_twoOf_231
                                          · exact w_X12_twoOf_226 hM hr hlk h (fun t0 e => k0 t0 e) hG (lv_sub hl [] rfl)
                                      · have h := (if_neg c_55).symm.trans h
                                        by_cases c_58 : x0 = (56 : Int32)
                                        · have h := (if_pos c_58).symm.trans h
                                          refine lv_tableIn (off := 217) (tgt := 218) hx hb dX12_twoOf_1 (by rw [c_58]; decide) (by rw [c_58]; decide) (by rw [c_58]; rfl) (by decide) ?_
                                          refine lv_iload_n hx hb dX12_twoOf_218 rfl (lv_at hl 1 rfl) ?_
                                          refine x_if_ne (tgt := 226) hM h dX12_twoOf_219 (by decide) (fun c_59 h => ?_) (fun c_59 h => ?_)
                                          · exact w_X12_twoOf_226 hM hr hlk h (fun t0 e => k0 t0 e) hG (lv_sub hl [] rfl)
                                          · refine lv_iload_n hx hb dX12_twoOf_222 rfl (lv_at hl 2 rfl) ?_
                                            refine x_if_eq (tgt := 230) hM h dX12_twoOf_223 (by decide) (fun c_60 h => ?_) (fun c_60 h => ?_)
                                            · refine lv_iconst (v := (0 : Int32)) hx hb dX12_twoOf_230 (by decide) ?_
                                              exact x_ri hM hG hr hlk rfl (k0 _ (Option.some.inj h).symm) dX12_twoOf_231
                                            · exact w_X12_twoOf_226 hM hr hlk h (fun t0 e => k0 t0 e) hG (lv_sub hl [] rfl)
                                        · have h := (if_neg c_58).symm.trans h
                                          by_cases c_61 : x0 = (57 : Int32)
                                          · have h := (if_pos c_61).symm.trans h
                                            refine lv_tableIn (off := 217) (tgt := 218) hx hb dX12_twoOf_1 (by rw [c_61]; decide) (by rw [c_61]; decide) (by rw [c_61]; rfl) (by decide) ?_
                                            refine lv_iload_n hx hb dX12_twoOf_218 rfl (lv_at hl 1 rfl) ?_
                                            refine x_if_ne (tgt := 226) hM h dX12_twoOf_219 (by decide) (fun c_62 h => ?_) (fun c_62 h => ?_)
                                            · exact w_X12_twoOf_226 hM hr hlk h (fun t0 e => k0 t0 e) hG (lv_sub hl [] rfl)
                                            · refine lv_iload_n hx hb dX12_twoOf_222 rfl (lv_at hl 2 rfl) ?_
                                              refine x_if_eq (tgt := 230) hM h dX12_twoOf_223 (by decide) (fun c_63 h => ?_) (fun c_63 h => ?_)
                                              · refine lv_iconst (v := (0 : Int32)) hx hb dX12_twoOf_230 (by decide) ?_
                                                exact x_ri hM hG hr hlk rfl (k0 _ (Option.some.inj h).symm) dX12_twoOf_231
                                              · exact w_X12_twoOf_226 hM hr hlk h (fun t0 e => k0 t0 e) hG (lv_sub hl [] rfl)
                                          · have h := (if_neg c_61).symm.trans h
                                            by_cases c_64 : x0 = (58 : Int32)
                                            · have h := (if_pos c_64).symm.trans h
                                              refine lv_tableIn (off := 217) (tgt := 218) hx hb dX12_twoOf_1 (by rw [c_64]; decide) (by rw [c_64]; decide) (by rw [c_64]; rfl) (by decide) ?_
                                              refine lv_iload_n hx hb dX12_twoOf_218 rfl (lv_at hl 1 rfl) ?_
                                              refine x_if_ne (tgt := 226) hM h dX12_twoOf_219 (by decide) (fun c_65 h => ?_) (fun c_65 h => ?_)
                                              · exact w_X12_twoOf_226 hM hr hlk h (fun t0 e => k0 t0 e) hG (lv_sub hl [] rfl)
                                              · refine lv_iload_n hx hb dX12_twoOf_222 rfl (lv_at hl 2 rfl) ?_
                                                refine x_if_eq (tgt := 230) hM h dX12_twoOf_223 (by decide) (fun c_66 h => ?_) (fun c_66 h => ?_)
                                                · refine lv_iconst (v := (0 : Int32)) hx hb dX12_twoOf_230 (by decide) ?_
                                                  exact x_ri hM hG hr hlk rfl (k0 _ (Option.some.inj h).symm) dX12_twoOf_231
                                                · exact w_X12_twoOf_226 hM hr hlk h (fun t0 e => k0 t0 e) hG (lv_sub hl [] rfl)
                                            · have h := (if_neg c_64).symm.trans h
                                              by_cases c_67 : x0 = (59 : Int32)
                                              · have h := (if_pos c_67).symm.trans h
                                                refine lv_tableIn (off := 217) (tgt := 218) hx hb dX12_twoOf_1 (by rw [c_67]; decide) (by rw [c_67]; decide) (by rw [c_67]; rfl) (by decide) ?_
                                                refine lv_iload_n hx hb dX12_twoOf_218 rfl (lv_at hl 1 rfl) ?_
                                                refine x_if_ne (tgt := 226) hM h dX12_twoOf_219 (by decide) (fun c_68 h => ?_) (fun c_68 h => ?_)
                                                · exact w_X12_twoOf_226 hM hr hlk h (fun t0 e => k0 t0 e) hG (lv_sub hl [] rfl)
                                                · refine lv_iload_n hx hb dX12_twoOf_222 rfl (lv_at hl 2 rfl) ?_
                                                  refine x_if_eq (tgt := 230) hM h dX12_twoOf_223 (by decide) (fun c_69 h => ?_) (fun c_69 h => ?_)
                                                  · refine lv_iconst (v := (0 : Int32)) hx hb dX12_twoOf_230 (by decide) ?_
                                                    exact x_ri hM hG hr hlk rfl (k0 _ (Option.some.inj h).symm) dX12_twoOf_231
                                                  · exact w_X12_twoOf_226 hM hr hlk h (fun t0 e => k0 t0 e) hG (lv_sub hl [] rfl)
                                              · have h := (if_neg c_67).symm.trans h
                                                by_cases c_70 : x0 = (60 : Int32)
                                                · have h := (if_pos c_70).symm.trans h
                                                  refine lv_tableIn (off := 170) (tgt := 171) hx hb dX12_twoOf_1 (by rw [c_70]; decide) (by rw [c_70]; decide) (by rw [c_70]; rfl) (by decide) ?_
                                                  refine lv_iload_n hx hb dX12_twoOf_171 rfl (lv_at hl 1 rfl) ?_
                                                  refine lv_iload_n hx hb dX12_twoOf_172 rfl (lv_at hl 2 rfl) ?_
                                                  refine x_icmp_ge (tgt := 180) hM h dX12_twoOf_173 (by decide) (fun c_71 h => ?_) (fun c_71 h => ?_)
                                                  · refine lv_iconst (v := (0 : Int32)) hx hb dX12_twoOf_180 (by decide) ?_
                                                    exact x_ri hM hG hr hlk rfl (k0 _ (Option.some.inj h).symm) dX12_twoOf_181
                                                  · refine lv_iconst (v := (1 : Int32)) hx hb dX12_twoOf_176 (by decide) ?_
                                                    refine lv_goto (tgt := 181) hx hb dX12_twoOf_177 (by decide) ?_
                                                    exact x_ri hM hG hr hlk rfl (k0 _ (Option.some.inj h).symm) dX12_twoOf_181
                                                · have h := (if_neg c_70).symm.trans h
                                                  by_cases c_72 : x0 = (61 : Int32)
                                                  · have h := (if_pos c_72).symm.trans h
                                                    refine lv_tableIn (off := 181) (tgt := 182) hx hb dX12_twoOf_1 (by rw [c_72]; decide) (by rw [c_72]; decide) (by rw [c_72]; rfl) (by decide) ?_
                                                    refine lv_iload_n hx hb dX12_twoOf_182 rfl (lv_at hl 1 rfl) ?_
                                                    refine lv_iload_n hx hb dX12_twoOf_183 rfl (lv_at hl 2 rfl) ?_
                                                    refine x_icmp_ne (tgt := 191) hM h dX12_twoOf_184 (by decide) (fun c_73 h => ?_) (fun c_73 h => ?_)
                                                    · refine lv_iconst (v := (0 : Int32)) hx hb dX12_twoOf_191 (by decide) ?_
                                                      exact x_ri hM hG hr hlk rfl (k0 _ (Option.some.inj h).symm) dX12_twoOf_192
                                                    · refine lv_iconst (v := (1 : Int32)) hx hb dX12_twoOf_187 (by decide) ?_
                                                      refine lv_goto (tgt := 192) hx hb dX12_twoOf_188 (by decide) ?_
                                                      exact x_ri hM hG hr hlk rfl (k0 _ (Option.some.inj h).symm) dX12_twoOf_192
                                                  · have h := (if_neg c_72).symm.trans h
                                                    by_cases c_74 : x0 = (62 : Int32)
                                                    · have h := (if_pos c_74).symm.trans h
                                                      refine lv_tableIn (off := 192) (tgt := 193) hx hb dX12_twoOf_1 (by rw [c_74]; decide) (by rw [c_74]; decide) (by rw [c_74]; rfl) (by decide) ?_
                                                      refine lv_iload_n hx hb dX12_twoOf_193 rfl (lv_at hl 1 rfl) ?_
                                                      refine lv_iload_n hx hb dX12_twoOf_194 rfl (lv_at hl 2 rfl) ?_
                                                      refine x_icmp_le (tgt := 202) hM h dX12_twoOf_195 (by decide) (fun c_75 h => ?_) (fun c_75 h => ?_)
                                                      · refine lv_iconst (v := (0 : Int32)) hx hb dX12_twoOf_202 (by decide) ?_
                                                        exact x_ri hM hG hr hlk rfl (k0 _ (Option.some.inj h).symm) dX12_twoOf_203
                                                      · refine lv_iconst (v := (1 : Int32)) hx hb dX12_twoOf_198 (by decide) ?_
                                                        refine lv_goto (tgt := 203) hx hb dX12_twoOf_199 (by decide) ?_
                                                        exact x_ri hM hG hr hlk rfl (k0 _ (Option.some.inj h).symm) dX12_twoOf_203
                                                    · have h := (if_neg c_74).symm.trans h
                                                      refine lv_tableOut (tgt := 218) hx hb dX12_twoOf_1 (x_tout [(37 : Int32), (38 : Int32), (39 : Int32), (40 : Int32), (41 : Int32), (42 : Int32), (43 : Int32), (44 : Int32), (45 : Int32), (46 : Int32), (47 : Int32), (48 : Int32), (49 : Int32), (50 : Int32), (51 : Int32), (52 : Int32), (53 : Int32), (54 : Int32), (55 : Int32), (56 : Int32), (57 : Int32), (58 : Int32), (59 : Int32), (60 : Int32), (61 : Int32), (62 : Int32)] 37 (by decide) (by decide) (List.forall_mem_cons.mpr ⟨c_1, (List.forall_mem_cons.mpr ⟨c_5, (List.forall_mem_cons.mpr ⟨c_8, (List.forall_mem_cons.mpr ⟨c_11, (List.forall_mem_cons.mpr ⟨c_14, (List.forall_mem_cons.mpr ⟨c_17, (List.forall_mem_cons.mpr ⟨c_19, (List.forall_mem_cons.mpr ⟨c_21, (List.forall_mem_cons.mpr ⟨c_24, (List.forall_mem_cons.mpr ⟨c_26, (List.forall_mem_cons.mpr ⟨c_29, (List.forall_mem_cons.mpr ⟨c_34, (List.forall_mem_cons.mpr ⟨c_37, (List.forall_mem_cons.mpr ⟨c_40, (List.forall_mem_cons.mpr ⟨c_43, (List.forall_mem_cons.mpr ⟨c_46, (List.forall_mem_cons.mpr ⟨c_49, (List.forall_mem_cons.mpr ⟨c_52, (List.forall_mem_cons.mpr ⟨c_55, (List.forall_mem_cons.mpr ⟨c_58, (List.forall_mem_cons.mpr ⟨c_61, (List.forall_mem_cons.mpr ⟨c_64, (List.forall_mem_cons.mpr ⟨c_67, (List.forall_mem_cons.mpr ⟨c_70, (List.forall_mem_cons.mpr ⟨c_72, (List.forall_mem_cons.mpr ⟨c_74, (fun _ h => absurd h List.not_mem_nil)⟩)⟩)⟩)⟩)⟩)⟩)⟩)⟩)⟩)⟩)⟩)⟩)⟩)⟩)⟩)⟩)⟩)⟩)⟩)⟩)⟩)⟩)⟩)⟩)⟩)⟩)) (by decide) ?_
                                                      refine lv_iload_n hx hb dX12_twoOf_218 rfl (lv_at hl 1 rfl) ?_
                                                      refine x_if_ne (tgt := 226) hM h dX12_twoOf_219 (by decide) (fun c_76 h => ?_) (fun c_76 h => ?_)
                                                      · exact w_X12_twoOf_226 hM hr hlk h (fun t0 e => k0 t0 e) hG (lv_sub hl [] rfl)
                                                      · refine lv_iload_n hx hb dX12_twoOf_222 rfl (lv_at hl 2 rfl) ?_
                                                        refine x_if_eq (tgt := 230) hM h dX12_twoOf_223 (by decide) (fun c_77 h => ?_) (fun c_77 h => ?_)
                                                        · refine lv_iconst (v := (0 : Int32)) hx hb dX12_twoOf_230 (by decide) ?_
                                                          exact x_ri hM hG hr hlk rfl (k0 _ (Option.some.inj h).symm) dX12_twoOf_231
                                                        · exact w_X12_twoOf_226 hM hr hlk h (fun t0 e => k0 t0 e) hG (lv_sub hl [] rfl)
set_option maxHeartbeats 4000000 in
set_option maxRecDepth 100000 in
theorem c_X12_twoOf {l : Launch} {D : va_G} {cy : Nat → ClassId} {a z : Nat → Nat} (hI : xI xmb a) {S : xSt} {x0 : Int32} {x1 : Int32} {x2 : Int32} {S' : xSt} {v' : Int32} (hf : f_X12_twoOf S x0 x1 x2 = some (S', v')) (sz : Nat) : Met l yX12_twoOf (Cond.code yX12_twoOf cX12_twoOf 3 (some .int) :: xTB) ({ frames := 0, cells := 0, slots := 0, locals := 0 } : Room) (va_Pc [.int x0, .int x1, .int x2] (xPre D cy xmb a z S sz)) (xQi D cy xmb a S' v' sz) 0 0 (xA xmb a sz) := by
  refine Met.ofW (cc := cX12_twoOf) (maxL := 3) (ret := (some .int)) (by decide) rfl ?_
  intro p e s m args below meth c s₁ B hml hv
  obtain ⟨rfl, hsz, hP, hK, hE⟩ := hv
  subst hsz
  have hl := lv_entry ([.int x0, .int x1, .int x2]) (n := 3) (Nat.le_of_ble_eq_true rfl)
  rw [lg_entry_eq]
  generalize (lg_sl ([.int x0, .int x1, .int x2]) ++ List.replicate (3 - (lg_sl ([.int x0, .int x1, .int x2])).length) Slot.unset).toArray = ls at hl ⊢
  have hl : lv_has ls 3 [(0, .int x0), (1, .int x1), (2, .int x2)] := hl
  exact w_X12_twoOf_0 ⟨B.exec, B.bytes, hml, findClass_of_methodNamed B.named, fun w hw => atoms_spec (ws := Cond.code yX12_twoOf cX12_twoOf 3 (some .int) :: xTB) B.pre w (List.mem_cons_of_mem _ hw), hK, hI, hE⟩ B.returns B.notSynchronized hf (fun t0 e => e.symm) ⟨hP, va_S.rf⟩ (lv_sub hl [0, 1, 2] rfl)
set_option maxHeartbeats 4000000 in
set_option maxRecDepth 100000 in
theorem w_X12_worked_182 {x1 : Int32} {x3 : Int32} {x4 : Int32} {x5 : Int32} (hM : xM p c cX12_worked m s args RX12 7 D cy xmb a z) (hr : meth.sig.returnType = (some .int)) (hlk : meth.locks = false) {S' : xSt} {v' : Int32} {S : xSt} {q : ((xSt × Int32 × Int32) ⊕ (xSt × Int32))} (h : f_X12_worked_182 x1 x3 x4 x5 S = some q) (k0 : ∀ t0 : xSt × Int32, q = (.inr t0) → t0 = (S', v')) (k1 : ∀ (S : xSt) (x4 : Int32) (x5 : Int32), q = (.inl (S, x4, x5)) → ∀ (H : Heap) (locs : List Loc) (ls : Array Slot), xG D cy xmb a S s H locs → lv_has ls 7 [(0, .ref (a 0)), (1, .int x1), (3, .int x3), (4, .int x4), (5, .int x5)] → W p l e ({ frames := 1, cells := 0, slots := 0, locals := 22 } : Room) s m args below meth c H locs 0 0 (MQ below (xQi D cy xmb a S' v' s.heap.size) args s 0 0 (xA xmb a s.heap.size)) (F0 m 12 ls [])) {H : Heap} {locs : List Loc} (hG : xG D cy xmb a S s H locs) {ls : Array Slot} (hl : lv_has ls 7 [(0, .ref (a 0)), (1, .int x1), (3, .int x3), (4, .int x4), (5, .int x5)]) : W p l e ({ frames := 1, cells := 0, slots := 0, locals := 22 } : Room) s m args below meth c H locs 0 0 (MQ below (xQi D cy xmb a S' v' s.heap.size) args s 0 0 (xA xmb a s.heap.size)) (F0 m 182 ls []) := by
  have hx := hM.1
  have hb := hM.2.1
  refine x_iinc hM (fun v => [(5, .int v), (0, .ref (a 0)), (1, .int x1), (3, .int x3), (4, .int x4)]) h dX12_worked_182 hl (k := 4) rfl (by decide) (by decide) (fun _ => rfl) (fun v_1 ls h hl => ?_)
  refine lv_goto (tgt := 12) hx hb dX12_worked_185 (by decide) ?_
  exact k1 _ _ _ (Option.some.inj h).symm _ _ _ hG (lv_sub hl [1, 2, 3, 4, 0] rfl)
set_option maxHeartbeats 4000000 in
set_option maxRecDepth 100000 in
theorem w_X12_worked_79 {x1 : Int32} {x3 : Int32} {x4 : Int32} {x5 : Int32} {y1 : Int32} {y2 : Int32} (hM : xM p c cX12_worked m s args RX12 7 D cy xmb a z) (hr : meth.sig.returnType = (some .int)) (hlk : meth.locks = false) {S' : xSt} {v' : Int32} {S : xSt} {q : ((xSt × Int32 × Int32) ⊕ (xSt × Int32))} (h : f_X12_worked_79 x1 x3 x4 x5 y1 y2 S = some q) (k0 : ∀ t0 : xSt × Int32, q = (.inr t0) → t0 = (S', v')) (k1 : ∀ (S : xSt) (x4 : Int32) (x5 : Int32), q = (.inl (S, x4, x5)) → ∀ (H : Heap) (locs : List Loc) (ls : Array Slot), xG D cy xmb a S s H locs → lv_has ls 7 [(0, .ref (a 0)), (1, .int x1), (3, .int x3), (4, .int x4), (5, .int x5)] → W p l e ({ frames := 1, cells := 0, slots := 0, locals := 22 } : Room) s m args below meth c H locs 0 0 (MQ below (xQi D cy xmb a S' v' s.heap.size) args s 0 0 (xA xmb a s.heap.size)) (F0 m 12 ls [])) {H : Heap} {locs : List Loc} (hG : xG D cy xmb a S s H locs) {ls : Array Slot} (hl : lv_has ls 7 [(0, .ref (a 0)), (1, .int x1), (3, .int x3), (4, .int x4), (5, .int x5)]) : W p l e ({ frames := 1, cells := 0, slots := 0, locals := 22 } : Room) s m args below meth c H locs 0 0 (MQ below (xQi D cy xmb a S' v' s.heap.size) args s 0 0 (xA xmb a s.heap.size)) (F0 m 79 ls [.int y2, .int y1, .ref (a 21)]) := by
  have hx := hM.1
  have hb := hM.2.1
  refine x_iast hM hG xmt_21 h dX12_worked_79 (fun S_1 H locs h hG => ?_)
  refine x_iinc hM (fun v => [(4, .int v), (0, .ref (a 0)), (1, .int x1), (3, .int x3), (5, .int x5)]) h dX12_worked_80 hl (k := 3) rfl (by decide) (by decide) (fun _ => rfl) (fun v_2 ls h hl => ?_)
  refine lv_goto (tgt := 182) hx hb dX12_worked_83 (by decide) ?_
  exact w_X12_worked_182 hM hr hlk h (fun t0 e => k0 t0 e) (fun S x4 x5 e => k1 S x4 x5 e) hG (lv_sub hl [1, 2, 3, 0, 4] rfl)
set_option maxHeartbeats 4000000 in
set_option maxRecDepth 100000 in
theorem w_X12_worked_45 {x1 : Int32} {x3 : Int32} {x4 : Int32} {x5 : Int32} {x6 : Int32} (hM : xM p c cX12_worked m s args RX12 7 D cy xmb a z) (hr : meth.sig.returnType = (some .int)) (hlk : meth.locks = false) {S' : xSt} {v' : Int32} {S : xSt} {q : ((xSt × Int32 × Int32) ⊕ (xSt × Int32))} (h : f_X12_worked_45 x1 x3 x4 x5 x6 S = some q) (k0 : ∀ t0 : xSt × Int32, q = (.inr t0) → t0 = (S', v')) (k1 : ∀ (S : xSt) (x4 : Int32) (x5 : Int32), q = (.inl (S, x4, x5)) → ∀ (H : Heap) (locs : List Loc) (ls : Array Slot), xG D cy xmb a S s H locs → lv_has ls 7 [(0, .ref (a 0)), (1, .int x1), (3, .int x3), (4, .int x4), (5, .int x5)] → W p l e ({ frames := 1, cells := 0, slots := 0, locals := 22 } : Room) s m args below meth c H locs 0 0 (MQ below (xQi D cy xmb a S' v' s.heap.size) args s 0 0 (xA xmb a s.heap.size)) (F0 m 12 ls [])) {H : Heap} {locs : List Loc} (hG : xG D cy xmb a S s H locs) {ls : Array Slot} (hl : lv_has ls 7 [(0, .ref (a 0)), (1, .int x1), (3, .int x3), (4, .int x4), (5, .int x5), (6, .int x6)]) : W p l e ({ frames := 1, cells := 0, slots := 0, locals := 22 } : Room) s m args below meth c H locs 0 0 (MQ below (xQi D cy xmb a S' v' s.heap.size) args s 0 0 (xA xmb a s.heap.size)) (F0 m 45 ls []) := by
  have hx := hM.1
  have hb := hM.2.1
  refine lv_aload_n hx hb dX12_worked_45 rfl (lv_at hl 0 rfl) ?_
  refine x_gr (r := 21) hM hG xfl_X12_74 xmt_0 (by decide) rfl dX12_worked_46 ?_
  refine lv_iload hx hb dX12_worked_49 (lv_at hl 3 rfl) ?_
  refine lv_iload hx hb dX12_worked_51 (lv_at hl 5 rfl) ?_
  refine lv_iconst (v := (1 : Int32)) hx hb dX12_worked_53 (by decide) ?_
  refine x_icmp_ne (tgt := 67) hM h dX12_worked_54 (by decide) (fun c_1 h => ?_) (fun c_1 h => ?_)
  · refine lv_aload_n hx hb dX12_worked_67 rfl (lv_at hl 0 rfl) ?_
    refine x_gr (r := 20) hM hG xfl_X12_71 xmt_0 (by decide) rfl dX12_worked_68 ?_
    refine lv_aload_n hx hb dX12_worked_71 rfl (lv_at hl 0 rfl) ?_
    refine x_gr (r := 16) hM hG xfl_X12_58 xmt_0 (by decide) rfl dX12_worked_72 ?_
    refine lv_iload hx hb dX12_worked_75 (lv_at hl 4 rfl) ?_
    refine x_iald hM hG xmt_16 h dX12_worked_77 (fun v_2 h => ?_)
    refine x_iald hM hG xmt_20 h dX12_worked_78 (fun v_3 h => ?_)
    exact w_X12_worked_79 hM hr hlk h (fun t0 e => k0 t0 e) (fun S x4 x5 e => k1 S x4 x5 e) hG (lv_sub hl [0, 1, 2, 3, 4] rfl)
  · refine lv_aload_n hx hb dX12_worked_57 rfl (lv_at hl 0 rfl) ?_
    refine x_gr (r := 16) hM hG xfl_X12_58 xmt_0 (by decide) rfl dX12_worked_58 ?_
    refine lv_iload hx hb dX12_worked_61 (lv_at hl 4 rfl) ?_
    refine x_iald hM hG xmt_16 h dX12_worked_63 (fun v_4 h => ?_)
    refine lv_goto (tgt := 79) hx hb dX12_worked_64 (by decide) ?_
    exact w_X12_worked_79 hM hr hlk h (fun t0 e => k0 t0 e) (fun S x4 x5 e => k1 S x4 x5 e) hG (lv_sub hl [0, 1, 2, 3, 4] rfl)
set_option maxHeartbeats 4000000 in
set_option maxRecDepth 100000 in
theorem w_X12_worked_117 {x1 : Int32} {x3 : Int32} {x4 : Int32} {x5 : Int32} {y1 : Int32} {y2 : Int32} (hM : xM p c cX12_worked m s args RX12 7 D cy xmb a z) (hr : meth.sig.returnType = (some .int)) (hlk : meth.locks = false) {S' : xSt} {v' : Int32} {S : xSt} {q : ((xSt × Int32 × Int32) ⊕ (xSt × Int32))} (h : f_X12_worked_117 x1 x3 x4 x5 y1 y2 S = some q) (k0 : ∀ t0 : xSt × Int32, q = (.inr t0) → t0 = (S', v')) (k1 : ∀ (S : xSt) (x4 : Int32) (x5 : Int32), q = (.inl (S, x4, x5)) → ∀ (H : Heap) (locs : List Loc) (ls : Array Slot), xG D cy xmb a S s H locs → lv_has ls 7 [(0, .ref (a 0)), (1, .int x1), (3, .int x3), (4, .int x4), (5, .int x5)] → W p l e ({ frames := 1, cells := 0, slots := 0, locals := 22 } : Room) s m args below meth c H locs 0 0 (MQ below (xQi D cy xmb a S' v' s.heap.size) args s 0 0 (xA xmb a s.heap.size)) (F0 m 12 ls [])) {H : Heap} {locs : List Loc} (hG : xG D cy xmb a S s H locs) {ls : Array Slot} (hl : lv_has ls 7 [(0, .ref (a 0)), (1, .int x1), (3, .int x3), (4, .int x4), (5, .int x5)]) : W p l e ({ frames := 1, cells := 0, slots := 0, locals := 22 } : Room) s m args below meth c H locs 0 0 (MQ below (xQi D cy xmb a S' v' s.heap.size) args s 0 0 (xA xmb a s.heap.size)) (F0 m 117 ls [.int y2, .int y1, .ref (a 21)]) := by
  have hx := hM.1
  have hb := hM.2.1
  refine x_iast hM hG xmt_21 h dX12_worked_117 (fun S_1 H locs h hG => ?_)
  refine lv_goto (tgt := 182) hx hb dX12_worked_118 (by decide) ?_
  exact w_X12_worked_182 hM hr hlk h (fun t0 e => k0 t0 e) (fun S x4 x5 e => k1 S x4 x5 e) hG (lv_sub hl [0, 1, 2, 3, 4] rfl)
set_option maxHeartbeats 4000000 in
set_option maxRecDepth 100000 in
theorem w_X12_worked_188 (hM : xM p c cX12_worked m s args RX12 7 D cy xmb a z) (hr : meth.sig.returnType = (some .int)) (hlk : meth.locks = false) {S' : xSt} {v' : Int32} {S : xSt} {q : (xSt × Int32)} (h : f_X12_worked_188 S = some q) (k0 : ∀ t0 : xSt × Int32, q = t0 → t0 = (S', v')) {H : Heap} {locs : List Loc} (hG : xG D cy xmb a S s H locs) {ls : Array Slot} (hl : lv_has ls 7 [(0, .ref (a 0))]) : W p l e ({ frames := 1, cells := 0, slots := 0, locals := 22 } : Room) s m args below meth c H locs 0 0 (MQ below (xQi D cy xmb a S' v' s.heap.size) args s 0 0 (xA xmb a s.heap.size)) (F0 m 188 ls []) := by
  have hx := hM.1
  have hb := hM.2.1
  refine lv_aload_n hx hb dX12_worked_188 rfl (lv_at hl 0 rfl) ?_
  refine x_gr (r := 21) hM hG xfl_X12_74 xmt_0 (by decide) rfl dX12_worked_189 ?_
  refine lv_iconst (v := (0 : Int32)) hx hb dX12_worked_192 (by decide) ?_
  refine x_iald hM hG xmt_21 h dX12_worked_193 (fun v_1 h => ?_)
  exact x_ri hM hG hr hlk rfl (k0 _ (Option.some.inj h).symm) dX12_worked_194
set_option maxHeartbeats 4000000 in
set_option maxRecDepth 100000 in
theorem w_X12_worked_12 {x1 : Int32} {x3 : Int32} {x4 : Int32} {x5 : Int32} (hM : xM p c cX12_worked m s args RX12 7 D cy xmb a z) (hr : meth.sig.returnType = (some .int)) (hlk : meth.locks = false) {S' : xSt} {v' : Int32} {S : xSt} {q : ((xSt × Int32 × Int32) ⊕ (xSt × Int32))} (h : f_X12_worked_12 x1 x3 S x4 x5 = some q) (k0 : ∀ t0 : xSt × Int32, q = (.inr t0) → t0 = (S', v')) (k1 : ∀ (S : xSt) (x4 : Int32) (x5 : Int32), q = (.inl (S, x4, x5)) → ∀ (H : Heap) (locs : List Loc) (ls : Array Slot), xG D cy xmb a S s H locs → lv_has ls 7 [(0, .ref (a 0)), (1, .int x1), (3, .int x3), (4, .int x4), (5, .int x5)] → W p l e ({ frames := 1, cells := 0, slots := 0, locals := 22 } : Room) s m args below meth c H locs 0 0 (MQ below (xQi D cy xmb a S' v' s.heap.size) args s 0 0 (xA xmb a s.heap.size)) (F0 m 12 ls [])) {H : Heap} {locs : List Loc} (hG : xG D cy xmb a S s H locs) {ls : Array Slot} (hl : lv_has ls 7 [(0, .ref (a 0)), (1, .int x1), (3, .int x3), (4, .int x4), (5, .int x5)]) : W p l e ({ frames := 1, cells := 0, slots := 0, locals := 22 } : Room) s m args below meth c H locs 0 0 (MQ below (xQi D cy xmb a S' v' s.heap.size) args s 0 0 (xA xmb a s.heap.size)) (F0 m 12 ls []) := by
  have hx := hM.1
  have hb := hM.2.1
  refine lv_iload hx hb dX12_worked_12 (lv_at hl 4 rfl) ?_
  refine lv_sipush (v := (130 : Int32)) hx hb dX12_worked_14 (by decide) ?_
  refine lv_iload_n hx hb dX12_worked_17 rfl (lv_at hl 1 rfl) ?_
  refine x_imul hM h dX12_worked_18 (fun v_1 h => ?_)
  refine lv_iload_n hx hb dX12_worked_19 rfl (lv_at hl 2 rfl) ?_
  refine x_iadd hM h dX12_worked_20 (fun v_2 h => ?_)
  refine x_icmp_ge (tgt := 188) hM h dX12_worked_21 (by decide) (fun c_3 h => ?_) (fun c_3 h => ?_)
  · obtain ⟨q1, h, e1⟩ := xmr_at h
    exact w_X12_worked_188 hM hr hlk h (fun t0 e => k0 t0 (by rw [e1, e])) hG (lv_sub hl [0] rfl)
  · refine lv_aload_n hx hb dX12_worked_24 rfl (lv_at hl 0 rfl) ?_
    refine x_gr (r := 15) hM hG xfl_X12_55 xmt_0 (by decide) rfl dX12_worked_25 ?_
    refine lv_iload hx hb dX12_worked_28 (lv_at hl 4 rfl) ?_
    refine x_bald hM hG xmt_15 h dX12_worked_30 (fun v_4 h => ?_)
    refine lv_istore (lv' := [(6, .int v_4), (0, .ref (a 0)), (1, .int x1), (3, .int x3), (4, .int x4), (5, .int x5)]) hx hb dX12_worked_31 hl (by decide) rfl (fun ls hl => ?_)
    refine lv_iload hx hb dX12_worked_33 (lv_at hl 0 rfl) ?_
    refine lv_iconst (v := (1 : Int32)) hx hb dX12_worked_35 (by decide) ?_
    refine x_icmp_eq (tgt := 45) hM h dX12_worked_36 (by decide) (fun c_5 h => ?_) (fun c_5 h => ?_)
    · exact w_X12_worked_45 hM hr hlk h (fun t0 e => k0 t0 e) (fun S x4 x5 e => k1 S x4 x5 e) hG (lv_sub hl [1, 2, 3, 4, 5, 0] rfl)
    · refine lv_iload hx hb dX12_worked_39 (lv_at hl 0 rfl) ?_
      refine lv_iconst (v := (2 : Int32)) hx hb dX12_worked_41 (by decide) ?_
      refine x_icmp_ne (tgt := 86) hM h dX12_worked_42 (by decide) (fun c_6 h => ?_) (fun c_6 h => ?_)
      · refine lv_iload hx hb dX12_worked_86 (lv_at hl 0 rfl) ?_
        refine lv_iconst (v := (3 : Int32)) hx hb dX12_worked_88 (by decide) ?_
        refine x_icmp_ne (tgt := 121) hM h dX12_worked_89 (by decide) (fun c_7 h => ?_) (fun c_7 h => ?_)
        · refine lv_iload hx hb dX12_worked_121 (lv_at hl 0 rfl) ?_
          refine lv_iconst (v := (4 : Int32)) hx hb dX12_worked_123 (by decide) ?_
          refine x_icmp_ne (tgt := 149) hM h dX12_worked_124 (by decide) (fun c_8 h => ?_) (fun c_8 h => ?_)
          · refine x_iinc hM (fun v => [(4, .int v), (6, .int v_4), (0, .ref (a 0)), (1, .int x1), (3, .int x3), (5, .int x5)]) h dX12_worked_149 hl (k := 4) rfl (by decide) (by decide) (fun _ => rfl) (fun v_9 ls h hl => ?_)
            refine lv_aload_n hx hb dX12_worked_152 rfl (lv_at hl 2 rfl) ?_
            refine x_gr (r := 21) hM hG xfl_X12_74 xmt_0 (by decide) rfl dX12_worked_153 ?_
            refine lv_iload hx hb dX12_worked_156 (lv_at hl 0 rfl) ?_
            refine lv_iconst (v := (1 : Int32)) hx hb dX12_worked_158 (by decide) ?_
            refine x_isub hM h dX12_worked_159 (fun v_10 h => ?_)
            refine lv_iload hx hb dX12_worked_160 (lv_at hl 1 rfl) ?_
            refine lv_aload_n hx hb dX12_worked_162 rfl (lv_at hl 2 rfl) ?_
            refine x_gr (r := 21) hM hG xfl_X12_74 xmt_0 (by decide) rfl dX12_worked_163 ?_
            refine lv_iload hx hb dX12_worked_166 (lv_at hl 0 rfl) ?_
            refine lv_iconst (v := (1 : Int32)) hx hb dX12_worked_168 (by decide) ?_
            refine x_isub hM h dX12_worked_169 (fun v_11 h => ?_)
            refine x_iald hM hG xmt_21 h dX12_worked_170 (fun v_12 h => ?_)
            refine lv_aload_n hx hb dX12_worked_171 rfl (lv_at hl 2 rfl) ?_
            refine x_gr (r := 21) hM hG xfl_X12_74 xmt_0 (by decide) rfl dX12_worked_172 ?_
            refine lv_iload hx hb dX12_worked_175 (lv_at hl 0 rfl) ?_
            refine x_iald hM hG xmt_21 h dX12_worked_177 (fun v_13 h => ?_)
            refine x_cSi (As := [.int v_4, .int v_12, .int v_13]) (rest := [.int v_10, .ref (a 21)]) hM hG xml_X12_244 xwt_X12_twoOf h (fun S' v e => c_X12_twoOf hM.2.2.2.2.2.2.1 e _) ⟨Nat.le_of_ble_eq_true rfl, Nat.le_of_ble_eq_true rfl⟩ rfl hl.1 rfl (Nat.le_of_ble_eq_true rfl) dX12_worked_178 (fun S_14 v_15 H locs h hG => ?_)
            refine x_iast hM hG xmt_21 h dX12_worked_181 (fun S_16 H locs h hG => ?_)
            exact w_X12_worked_182 hM hr hlk h (fun t0 e => k0 t0 e) (fun S x4 x5 e => k1 S x4 x5 e) hG (lv_sub hl [2, 3, 4, 0, 5] rfl)
          · refine lv_aload_n hx hb dX12_worked_127 rfl (lv_at hl 1 rfl) ?_
            refine x_gr (r := 21) hM hG xfl_X12_74 xmt_0 (by decide) rfl dX12_worked_128 ?_
            refine lv_iload hx hb dX12_worked_131 (lv_at hl 4 rfl) ?_
            refine lv_iconst (v := (1 : Int32)) hx hb dX12_worked_133 (by decide) ?_
            refine x_isub hM h dX12_worked_134 (fun v_17 h => ?_)
            refine lv_aload_n hx hb dX12_worked_135 rfl (lv_at hl 1 rfl) ?_
            refine x_gr (r := 21) hM hG xfl_X12_74 xmt_0 (by decide) rfl dX12_worked_136 ?_
            refine lv_iload hx hb dX12_worked_139 (lv_at hl 4 rfl) ?_
            refine lv_iconst (v := (1 : Int32)) hx hb dX12_worked_141 (by decide) ?_
            refine x_isub hM h dX12_worked_142 (fun v_18 h => ?_)
            refine x_iald hM hG xmt_21 h dX12_worked_143 (fun v_19 h => ?_)
            refine x_ineg hM h dX12_worked_144 (fun v_20 h => ?_)
            refine x_iast hM hG xmt_21 h dX12_worked_145 (fun S_21 H locs h hG => ?_)
            refine lv_goto (tgt := 182) hx hb dX12_worked_146 (by decide) ?_
            exact w_X12_worked_182 hM hr hlk h (fun t0 e => k0 t0 e) (fun S x4 x5 e => k1 S x4 x5 e) hG (lv_sub hl [1, 2, 3, 4, 5] rfl)
        · refine lv_aload_n hx hb dX12_worked_92 rfl (lv_at hl 1 rfl) ?_
          refine x_gr (r := 21) hM hG xfl_X12_74 xmt_0 (by decide) rfl dX12_worked_93 ?_
          refine lv_iload hx hb dX12_worked_96 (lv_at hl 4 rfl) ?_
          refine lv_iconst (v := (1 : Int32)) hx hb dX12_worked_98 (by decide) ?_
          refine x_isub hM h dX12_worked_99 (fun v_22 h => ?_)
          refine lv_aload_n hx hb dX12_worked_100 rfl (lv_at hl 1 rfl) ?_
          refine x_gr (r := 21) hM hG xfl_X12_74 xmt_0 (by decide) rfl dX12_worked_101 ?_
          refine lv_iload hx hb dX12_worked_104 (lv_at hl 4 rfl) ?_
          refine lv_iconst (v := (1 : Int32)) hx hb dX12_worked_106 (by decide) ?_
          refine x_isub hM h dX12_worked_107 (fun v_23 h => ?_)
          refine x_iald hM hG xmt_21 h dX12_worked_108 (fun v_24 h => ?_)
          refine x_if_ne (tgt := 116) hM h dX12_worked_109 (by decide) (fun c_25 h => ?_) (fun c_25 h => ?_)
          · refine lv_iconst (v := (0 : Int32)) hx hb dX12_worked_116 (by decide) ?_
            exact w_X12_worked_117 hM hr hlk h (fun t0 e => k0 t0 e) (fun S x4 x5 e => k1 S x4 x5 e) hG (lv_sub hl [1, 2, 3, 4, 5] rfl)
          · refine lv_iconst (v := (1 : Int32)) hx hb dX12_worked_112 (by decide) ?_
            refine lv_goto (tgt := 117) hx hb dX12_worked_113 (by decide) ?_
            exact w_X12_worked_117 hM hr hlk h (fun t0 e => k0 t0 e) (fun S x4 x5 e => k1 S x4 x5 e) hG (lv_sub hl [1, 2, 3, 4, 5] rfl)
      · exact w_X12_worked_45 hM hr hlk h (fun t0 e => k0 t0 e) (fun S x4 x5 e => k1 S x4 x5 e) hG (lv_sub hl [1, 2, 3, 4, 5, 0] rfl)
theorem wl_X12_worked_12 {x1 : Int32} {x3 : Int32} (hM : xM p c cX12_worked m s args RX12 7 D cy xmb a z) (hr : meth.sig.returnType = (some .int)) (hlk : meth.locks = false) {S' : xSt} {v' : Int32} {q : (xSt × Int32)} (k0 : ∀ t0 : xSt × Int32, q = t0 → t0 = (S', v')) (n : Nat) : ∀ (S : xSt) (x4 : Int32) (x5 : Int32) (H : Heap) (locs : List Loc) (ls : Array Slot), xlp (fun q : (xSt × Int32 × Int32) => f_X12_worked_12 x1 x3 q.1 q.2.1 q.2.2) n (S, x4, x5) = some q → xG D cy xmb a S s H locs → lv_has ls 7 [(0, .ref (a 0)), (1, .int x1), (3, .int x3), (4, .int x4), (5, .int x5)] → W p l e ({ frames := 1, cells := 0, slots := 0, locals := 22 } : Room) s m args below meth c H locs 0 0 (MQ below (xQi D cy xmb a S' v' s.heap.size) args s 0 0 (xA xmb a s.heap.size)) (F0 m 12 ls []) := by
  induction n with
  | zero => intro S x4 x5 H locs ls h; exact (xlp_0 h).elim
  | succ n ih =>
    intro S x4 x5 H locs ls h hG hl
    obtain ⟨q1, hq, hc, he⟩ := xlp_at h
    exact w_X12_worked_12 hM hr hlk (q := q1) hq (fun t0 e => k0 t0 (he _ e).symm) (fun S x4 x5 e H locs ls hG hl => ih S x4 x5 H locs ls (hc _ e) hG hl) hG hl
set_option maxHeartbeats 4000000 in
set_option maxRecDepth 100000 in
theorem w_X12_worked_0 {x1 : Int32} {x2 : Int32} {x3 : Int32} (hM : xM p c cX12_worked m s args RX12 7 D cy xmb a z) (hr : meth.sig.returnType = (some .int)) (hlk : meth.locks = false) {S' : xSt} {v' : Int32} {S : xSt} {q : (xSt × Int32)} (h : f_X12_worked_0 x1 x2 x3 S = some q) (k0 : ∀ t0 : xSt × Int32, q = t0 → t0 = (S', v')) {H : Heap} {locs : List Loc} (hG : xG D cy xmb a S s H locs) {ls : Array Slot} (hl : lv_has ls 7 [(0, .ref (a 0)), (1, .int x1), (2, .int x2), (3, .int x3)]) : W p l e ({ frames := 1, cells := 0, slots := 0, locals := 22 } : Room) s m args below meth c H locs 0 0 (MQ below (xQi D cy xmb a S' v' s.heap.size) args s 0 0 (xA xmb a s.heap.size)) (F0 m 0 ls []) := by
  have hx := hM.1
  have hb := hM.2.1
  refine lv_iconst (v := (0 : Int32)) hx hb dX12_worked_0 (by decide) ?_
  refine lv_istore (lv' := [(4, .int (0 : Int32)), (0, .ref (a 0)), (1, .int x1), (2, .int x2), (3, .int x3)]) hx hb dX12_worked_1 hl (by decide) rfl (fun ls hl => ?_)
  refine lv_sipush (v := (130 : Int32)) hx hb dX12_worked_3 (by decide) ?_
  refine lv_iload_n hx hb dX12_worked_6 rfl (lv_at hl 2 rfl) ?_
  refine x_imul hM h dX12_worked_7 (fun v_1 h => ?_)
  refine lv_iload_n hx hb dX12_worked_8 rfl (lv_at hl 3 rfl) ?_
  refine x_iadd hM h dX12_worked_9 (fun v_2 h => ?_)
  refine lv_istore (lv' := [(5, .int v_2), (4, .int (0 : Int32)), (0, .ref (a 0)), (1, .int x1), (2, .int x2), (3, .int x3)]) hx hb dX12_worked_10 hl (by decide) rfl (fun ls hl => ?_)
  exact wl_X12_worked_12 hM hr hlk (fun t0 e => k0 t0 e) 5000 _ _ _ _ _ _ h hG (lv_sub hl [2, 3, 5, 1, 0] rfl)
set_option maxHeartbeats 4000000 in
set_option maxRecDepth 100000 in
theorem c_X12_worked {l : Launch} {D : va_G} {cy : Nat → ClassId} {a z : Nat → Nat} (hI : xI xmb a) {S : xSt} {x1 : Int32} {x2 : Int32} {x3 : Int32} {S' : xSt} {v' : Int32} (hf : f_X12_worked S x1 x2 x3 = some (S', v')) (sz : Nat) : Met l yX12_worked (Cond.code yX12_worked cX12_worked 7 (some .int) :: xTB) ({ frames := 1, cells := 0, slots := 0, locals := 22 } : Room) (va_Pc [.ref (a 0), .int x1, .int x2, .int x3] (xPre D cy xmb a z S sz)) (xQi D cy xmb a S' v' sz) 0 0 (xA xmb a sz) := by
  refine Met.ofW (cc := cX12_worked) (maxL := 7) (ret := (some .int)) (by decide) rfl ?_
  intro p e s m args below meth c s₁ B hml hv
  obtain ⟨rfl, hsz, hP, hK, hE⟩ := hv
  subst hsz
  have hl := lv_entry ([.ref (a 0), .int x1, .int x2, .int x3]) (n := 7) (Nat.le_of_ble_eq_true rfl)
  rw [lg_entry_eq]
  generalize (lg_sl ([.ref (a 0), .int x1, .int x2, .int x3]) ++ List.replicate (7 - (lg_sl ([.ref (a 0), .int x1, .int x2, .int x3])).length) Slot.unset).toArray = ls at hl ⊢
  have hl : lv_has ls 7 [(0, .ref (a 0)), (1, .int x1), (2, .int x2), (3, .int x3)] := hl
  exact w_X12_worked_0 ⟨B.exec, B.bytes, hml, findClass_of_methodNamed B.named, fun w hw => atoms_spec (ws := Cond.code yX12_worked cX12_worked 7 (some .int) :: xTB) B.pre w (List.mem_cons_of_mem _ hw), hK, hI, hE⟩ B.returns B.notSynchronized hf (fun t0 e => e.symm) ⟨hP, va_S.rf⟩ (lv_sub hl [0, 1, 2, 3] rfl)
set_option maxHeartbeats 4000000 in
set_option maxRecDepth 100000 in
theorem w_X12_gives_47 {x1 : Int32} {x3 : Int32} (hM : xM p c cX12_gives m s args RX12 4 D cy xmb a z) (hr : meth.sig.returnType = (some .int)) (hlk : meth.locks = false) {S' : xSt} {v' : Int32} {S : xSt} {q : (xSt × Int32)} (h : f_X12_gives_47 x1 x3 S = some q) (k0 : ∀ t0 : xSt × Int32, q = t0 → t0 = (S', v')) {H : Heap} {locs : List Loc} (hG : xG D cy xmb a S s H locs) {ls : Array Slot} (hl : lv_has ls 4 [(0, .ref (a 0)), (1, .int x1), (3, .int x3)]) : W p l e ({ frames := 2, cells := 0, slots := 0, locals := 48 } : Room) s m args below meth c H locs 0 0 (MQ below (xQi D cy xmb a S' v' s.heap.size) args s 0 0 (xA xmb a s.heap.size)) (F0 m 47 ls []) := by
  have hx := hM.1
  have hb := hM.2.1
  refine lv_aload_n hx hb dX12_gives_47 rfl (lv_at hl 0 rfl) ?_
  refine lv_iload_n hx hb dX12_gives_48 rfl (lv_at hl 1 rfl) ?_
  refine lv_aload_n hx hb dX12_gives_49 rfl (lv_at hl 0 rfl) ?_
  refine x_gr (r := 18) hM hG xfl_X12_64 xmt_0 (by decide) rfl dX12_gives_50 ?_
  refine lv_iload_n hx hb dX12_gives_53 rfl (lv_at hl 2 rfl) ?_
  refine x_sald hM hG xmt_18 h dX12_gives_54 (fun v_1 h => ?_)
  refine lv_aload_n hx hb dX12_gives_55 rfl (lv_at hl 0 rfl) ?_
  refine x_gr (r := 19) hM hG xfl_X12_68 xmt_0 (by decide) rfl dX12_gives_56 ?_
  refine lv_iload_n hx hb dX12_gives_59 rfl (lv_at hl 2 rfl) ?_
  refine x_sald hM hG xmt_19 h dX12_gives_60 (fun v_2 h => ?_)
  refine x_cVi (As := [.int x1, .int v_1, .int v_2]) (rest := []) hM hG xml_X12_247 xwi_X12_worked xws_X12_worked xmt_0 (by decide) rfl h (fun S' v e => c_X12_worked hM.2.2.2.2.2.2.1 e _) ⟨Nat.le_of_ble_eq_true rfl, Nat.le_of_ble_eq_true rfl⟩ rfl hl.1 rfl (Nat.le_of_ble_eq_true rfl) dX12_gives_61 (fun S_3 v_4 H locs h hG => ?_)
  exact x_ri hM hG hr hlk rfl (k0 _ (Option.some.inj h).symm) dX12_gives_64
set_option maxHeartbeats 4000000 in
set_option maxRecDepth 100000 in
theorem w_X12_gives_7 {x1 : Int32} {x2 : Int32} {x3 : Int32} (hM : xM p c cX12_gives m s args RX12 4 D cy xmb a z) (hr : meth.sig.returnType = (some .int)) (hlk : meth.locks = false) {S' : xSt} {v' : Int32} {S : xSt} {q : ((xSt × Int32 × Int32) ⊕ (xSt × Int32))} (h : f_X12_gives_7 x1 S x2 x3 = some q) (k0 : ∀ t0 : xSt × Int32, q = (.inr t0) → t0 = (S', v')) (k1 : ∀ (S : xSt) (x2 : Int32) (x3 : Int32), q = (.inl (S, x2, x3)) → ∀ (H : Heap) (locs : List Loc) (ls : Array Slot), xG D cy xmb a S s H locs → lv_has ls 4 [(0, .ref (a 0)), (1, .int x1), (2, .int x2), (3, .int x3)] → W p l e ({ frames := 2, cells := 0, slots := 0, locals := 48 } : Room) s m args below meth c H locs 0 0 (MQ below (xQi D cy xmb a S' v' s.heap.size) args s 0 0 (xA xmb a s.heap.size)) (F0 m 7 ls [])) {H : Heap} {locs : List Loc} (hG : xG D cy xmb a S s H locs) {ls : Array Slot} (hl : lv_has ls 4 [(0, .ref (a 0)), (1, .int x1), (2, .int x2), (3, .int x3)]) : W p l e ({ frames := 2, cells := 0, slots := 0, locals := 48 } : Room) s m args below meth c H locs 0 0 (MQ below (xQi D cy xmb a S' v' s.heap.size) args s 0 0 (xA xmb a s.heap.size)) (F0 m 7 ls []) := by
  have hx := hM.1
  have hb := hM.2.1
  refine lv_iload_n hx hb dX12_gives_7 rfl (lv_at hl 3 rfl) ?_
  refine lv_bipush (v := (61 : Int32)) hx hb dX12_gives_8 (by decide) ?_
  refine lv_iload_n hx hb dX12_gives_10 rfl (lv_at hl 1 rfl) ?_
  refine x_imul hM h dX12_gives_11 (fun v_1 h => ?_)
  refine lv_aload_n hx hb dX12_gives_12 rfl (lv_at hl 0 rfl) ?_
  refine x_gr (r := 17) hM hG xfl_X12_61 xmt_0 (by decide) rfl dX12_gives_13 ?_
  refine lv_iload_n hx hb dX12_gives_16 rfl (lv_at hl 1 rfl) ?_
  refine x_iald hM hG xmt_17 h dX12_gives_17 (fun v_2 h => ?_)
  refine x_iadd hM h dX12_gives_18 (fun v_3 h => ?_)
  refine x_icmp_ge (tgt := 78) hM h dX12_gives_19 (by decide) (fun c_4 h => ?_) (fun c_4 h => ?_)
  · refine lv_iconst (v := (0 : Int32)) hx hb dX12_gives_78 (by decide) ?_
    exact x_ri hM hG hr hlk rfl (k0 _ (Option.some.inj h).symm) dX12_gives_79
  · refine lv_aload_n hx hb dX12_gives_22 rfl (lv_at hl 0 rfl) ?_
    refine x_gr (r := 18) hM hG xfl_X12_64 xmt_0 (by decide) rfl dX12_gives_23 ?_
    refine lv_iload_n hx hb dX12_gives_26 rfl (lv_at hl 3 rfl) ?_
    refine x_sald hM hG xmt_18 h dX12_gives_27 (fun v_5 h => ?_)
    refine lv_iload_n hx hb dX12_gives_28 rfl (lv_at hl 2 rfl) ?_
    refine x_icmp_eq (tgt := 47) hM h dX12_gives_29 (by decide) (fun c_6 h => ?_) (fun c_6 h => ?_)
    · obtain ⟨q1, h, e1⟩ := xmr_at h
      exact w_X12_gives_47 hM hr hlk h (fun t0 e => k0 t0 (by rw [e1, e])) hG (lv_sub hl [0, 1, 3] rfl)
    · refine lv_aload_n hx hb dX12_gives_32 rfl (lv_at hl 0 rfl) ?_
      refine lv_iload_n hx hb dX12_gives_33 rfl (lv_at hl 1 rfl) ?_
      refine lv_iload_n hx hb dX12_gives_34 rfl (lv_at hl 2 rfl) ?_
      refine lv_aload_n hx hb dX12_gives_35 rfl (lv_at hl 0 rfl) ?_
      refine x_gr (r := 18) hM hG xfl_X12_64 xmt_0 (by decide) rfl dX12_gives_36 ?_
      refine lv_iload_n hx hb dX12_gives_39 rfl (lv_at hl 3 rfl) ?_
      refine x_sald hM hG xmt_18 h dX12_gives_40 (fun v_7 h => ?_)
      refine x_cVi (As := [.int x1, .int x2, .int v_7]) (rest := []) hM hG xml_X12_247 xwi_X12_worked xws_X12_worked xmt_0 (by decide) rfl h (fun S' v e => c_X12_worked hM.2.2.2.2.2.2.1 e _) ⟨Nat.le_of_ble_eq_true rfl, Nat.le_of_ble_eq_true rfl⟩ rfl hl.1 rfl (Nat.le_of_ble_eq_true rfl) dX12_gives_41 (fun S_8 v_9 H locs h hG => ?_)
      refine x_if_eq (tgt := 65) hM h dX12_gives_44 (by decide) (fun c_10 h => ?_) (fun c_10 h => ?_)
      · refine lv_aload_n hx hb dX12_gives_65 rfl (lv_at hl 0 rfl) ?_
        refine x_gr (r := 19) hM hG xfl_X12_68 xmt_0 (by decide) rfl dX12_gives_66 ?_
        refine lv_iload_n hx hb dX12_gives_69 rfl (lv_at hl 3 rfl) ?_
        refine x_sald hM hG xmt_19 h dX12_gives_70 (fun v_11 h => ?_)
        refine lv_istore_n (lv' := [(2, .int v_11), (0, .ref (a 0)), (1, .int x1), (3, .int x3)]) hx hb dX12_gives_71 rfl hl (by decide) rfl (fun ls hl => ?_)
        refine x_iinc hM (fun v => [(3, .int v), (2, .int v_11), (0, .ref (a 0)), (1, .int x1)]) h dX12_gives_72 hl (k := 3) rfl (by decide) (by decide) (fun _ => rfl) (fun v_12 ls h hl => ?_)
        refine lv_goto (tgt := 7) hx hb dX12_gives_75 (by decide) ?_
        exact k1 _ _ _ (Option.some.inj h).symm _ _ _ hG (lv_sub hl [2, 3, 1, 0] rfl)
      · obtain ⟨q1, h, e1⟩ := xmr_at h
        exact w_X12_gives_47 hM hr hlk h (fun t0 e => k0 t0 (by rw [e1, e])) hG (lv_sub hl [0, 1, 3] rfl)
theorem wl_X12_gives_7 {x1 : Int32} (hM : xM p c cX12_gives m s args RX12 4 D cy xmb a z) (hr : meth.sig.returnType = (some .int)) (hlk : meth.locks = false) {S' : xSt} {v' : Int32} {q : (xSt × Int32)} (k0 : ∀ t0 : xSt × Int32, q = t0 → t0 = (S', v')) (n : Nat) : ∀ (S : xSt) (x2 : Int32) (x3 : Int32) (H : Heap) (locs : List Loc) (ls : Array Slot), xlp (fun q : (xSt × Int32 × Int32) => f_X12_gives_7 x1 q.1 q.2.1 q.2.2) n (S, x2, x3) = some q → xG D cy xmb a S s H locs → lv_has ls 4 [(0, .ref (a 0)), (1, .int x1), (2, .int x2), (3, .int x3)] → W p l e ({ frames := 2, cells := 0, slots := 0, locals := 48 } : Room) s m args below meth c H locs 0 0 (MQ below (xQi D cy xmb a S' v' s.heap.size) args s 0 0 (xA xmb a s.heap.size)) (F0 m 7 ls []) := by
  induction n with
  | zero => intro S x2 x3 H locs ls h; exact (xlp_0 h).elim
  | succ n ih =>
    intro S x2 x3 H locs ls h hG hl
    obtain ⟨q1, hq, hc, he⟩ := xlp_at h
    exact w_X12_gives_7 hM hr hlk (q := q1) hq (fun t0 e => k0 t0 (he _ e).symm) (fun S x2 x3 e H locs ls hG hl => ih S x2 x3 H locs ls (hc _ e) hG hl) hG hl
set_option maxHeartbeats 4000000 in
set_option maxRecDepth 100000 in
theorem w_X12_gives_0 {x1 : Int32} (hM : xM p c cX12_gives m s args RX12 4 D cy xmb a z) (hr : meth.sig.returnType = (some .int)) (hlk : meth.locks = false) {S' : xSt} {v' : Int32} {S : xSt} {q : (xSt × Int32)} (h : f_X12_gives_0 x1 S = some q) (k0 : ∀ t0 : xSt × Int32, q = t0 → t0 = (S', v')) {H : Heap} {locs : List Loc} (hG : xG D cy xmb a S s H locs) {ls : Array Slot} (hl : lv_has ls 4 [(0, .ref (a 0)), (1, .int x1)]) : W p l e ({ frames := 2, cells := 0, slots := 0, locals := 48 } : Room) s m args below meth c H locs 0 0 (MQ below (xQi D cy xmb a S' v' s.heap.size) args s 0 0 (xA xmb a s.heap.size)) (F0 m 0 ls []) := by
  have hx := hM.1
  have hb := hM.2.1
  refine lv_iconst (v := (0 : Int32)) hx hb dX12_gives_0 (by decide) ?_
  refine lv_istore_n (lv' := [(2, .int (0 : Int32)), (0, .ref (a 0)), (1, .int x1)]) hx hb dX12_gives_1 rfl hl (by decide) rfl (fun ls hl => ?_)
  refine lv_bipush (v := (61 : Int32)) hx hb dX12_gives_2 (by decide) ?_
  refine lv_iload_n hx hb dX12_gives_4 rfl (lv_at hl 2 rfl) ?_
  refine x_imul hM h dX12_gives_5 (fun v_1 h => ?_)
  refine lv_istore_n (lv' := [(3, .int v_1), (2, .int (0 : Int32)), (0, .ref (a 0)), (1, .int x1)]) hx hb dX12_gives_6 rfl hl (by decide) rfl (fun ls hl => ?_)
  exact wl_X12_gives_7 hM hr hlk (fun t0 e => k0 t0 e) 5000 _ _ _ _ _ _ h hG (lv_sub hl [2, 3, 1, 0] rfl)
set_option maxHeartbeats 4000000 in
set_option maxRecDepth 100000 in
theorem c_X12_gives {l : Launch} {D : va_G} {cy : Nat → ClassId} {a z : Nat → Nat} (hI : xI xmb a) {S : xSt} {x1 : Int32} {S' : xSt} {v' : Int32} (hf : f_X12_gives S x1 = some (S', v')) (sz : Nat) : Met l yX12_gives (Cond.code yX12_gives cX12_gives 4 (some .int) :: xTB) ({ frames := 2, cells := 0, slots := 0, locals := 48 } : Room) (va_Pc [.ref (a 0), .int x1] (xPre D cy xmb a z S sz)) (xQi D cy xmb a S' v' sz) 0 0 (xA xmb a sz) := by
  refine Met.ofW (cc := cX12_gives) (maxL := 4) (ret := (some .int)) (by decide) rfl ?_
  intro p e s m args below meth c s₁ B hml hv
  obtain ⟨rfl, hsz, hP, hK, hE⟩ := hv
  subst hsz
  have hl := lv_entry ([.ref (a 0), .int x1]) (n := 4) (Nat.le_of_ble_eq_true rfl)
  rw [lg_entry_eq]
  generalize (lg_sl ([.ref (a 0), .int x1]) ++ List.replicate (4 - (lg_sl ([.ref (a 0), .int x1])).length) Slot.unset).toArray = ls at hl ⊢
  have hl : lv_has ls 4 [(0, .ref (a 0)), (1, .int x1)] := hl
  exact w_X12_gives_0 ⟨B.exec, B.bytes, hml, findClass_of_methodNamed B.named, fun w hw => atoms_spec (ws := Cond.code yX12_gives cX12_gives 4 (some .int) :: xTB) B.pre w (List.mem_cons_of_mem _ hw), hK, hI, hE⟩ B.returns B.notSynchronized hf (fun t0 e => e.symm) ⟨hP, va_S.rf⟩ (lv_sub hl [0, 1] rfl)
set_option maxHeartbeats 4000000 in
set_option maxRecDepth 100000 in
theorem w_X12_law_0 (hM : xM p c cX12_law m s args RX12 2 D cy xmb a z) (hr : meth.sig.returnType = (some .int)) (hlk : meth.locks = false) {S' : xSt} {v' : Int32} {S : xSt} {q : (xSt × Int32)} (h : f_X12_law_0 S = some q) (k0 : ∀ t0 : xSt × Int32, q = t0 → t0 = (S', v')) {H : Heap} {locs : List Loc} (hG : xG D cy xmb a S s H locs) {ls : Array Slot} (hl : lv_has ls 2 [(0, .ref (a 0))]) : W p l e ({ frames := 75, cells := 0, slots := 0, locals := 1577 } : Room) s m args below meth c H locs 0 0 (MQ below (xQi D cy xmb a S' v' s.heap.size) args s 0 0 (xA xmb a s.heap.size)) (F0 m 0 ls []) := by
  have hx := hM.1
  have hb := hM.2.1
  refine lv_aload_n hx hb dX12_law_0 rfl (lv_at hl 0 rfl) ?_
  refine lv_iconst (v := (0 : Int32)) hx hb dX12_law_1 (by decide) ?_
  refine x_cVi (As := [.int (0 : Int32)]) (rest := []) hM hG xml_X12_250 xwi_X12_readText xws_X12_readText xmt_0 (by decide) rfl h (fun S' v e => c_X12_readText hM.2.2.2.2.2.2.1 e _) ⟨Nat.le_of_ble_eq_true rfl, Nat.le_of_ble_eq_true rfl⟩ rfl hl.1 rfl (Nat.le_of_ble_eq_true rfl) dX12_law_2 (fun S_1 v_2 H locs h hG => ?_)
  refine lv_istore_n (lv' := [(1, .int v_2), (0, .ref (a 0))]) hx hb dX12_law_5 rfl hl (by decide) rfl (fun ls hl => ?_)
  refine lv_iload_n hx hb dX12_law_6 rfl (lv_at hl 0 rfl) ?_
  refine x_if_lt (tgt := 15) hM h dX12_law_7 (by decide) (fun c_3 h => ?_) (fun c_3 h => ?_)
  · refine lv_aload_n hx hb dX12_law_15 rfl (lv_at hl 1 rfl) ?_
    refine lv_iconst (v := (1 : Int32)) hx hb dX12_law_16 (by decide) ?_
    refine x_pi hM hG xfl_X12_253 xfp_X12_29 xmt_0 (by decide) rfl rfl rfl h dX12_law_17 (fun S_4 H locs h hG => ?_)
    refine lv_iconst (v := (1 : Int32)) hx hb dX12_law_20 (by decide) ?_
    exact x_ri hM hG hr hlk rfl (k0 _ (Option.some.inj h).symm) dX12_law_21
  · refine lv_bipush (v := (-100 : Int32)) hx hb dX12_law_10 (by decide) ?_
    refine lv_iload_n hx hb dX12_law_12 rfl (lv_at hl 0 rfl) ?_
    refine x_isub hM h dX12_law_13 (fun v_5 h => ?_)
    exact x_ri hM hG hr hlk rfl (k0 _ (Option.some.inj h).symm) dX12_law_14
set_option maxHeartbeats 4000000 in
set_option maxRecDepth 100000 in
theorem c_X12_law {l : Launch} {D : va_G} {cy : Nat → ClassId} {a z : Nat → Nat} (hI : xI xmb a) {S : xSt} {S' : xSt} {v' : Int32} (hf : f_X12_law S = some (S', v')) (sz : Nat) : Met l yX12_law (Cond.code yX12_law cX12_law 2 (some .int) :: xTB) ({ frames := 75, cells := 0, slots := 0, locals := 1577 } : Room) (va_Pc [.ref (a 0)] (xPre D cy xmb a z S sz)) (xQi D cy xmb a S' v' sz) 0 0 (xA xmb a sz) := by
  refine Met.ofW (cc := cX12_law) (maxL := 2) (ret := (some .int)) (by decide) rfl ?_
  intro p e s m args below meth c s₁ B hml hv
  obtain ⟨rfl, hsz, hP, hK, hE⟩ := hv
  subst hsz
  have hl := lv_entry ([.ref (a 0)]) (n := 2) (Nat.le_of_ble_eq_true rfl)
  rw [lg_entry_eq]
  generalize (lg_sl ([.ref (a 0)]) ++ List.replicate (2 - (lg_sl ([.ref (a 0)])).length) Slot.unset).toArray = ls at hl ⊢
  have hl : lv_has ls 2 [(0, .ref (a 0))] := hl
  exact w_X12_law_0 ⟨B.exec, B.bytes, hml, findClass_of_methodNamed B.named, fun w hw => atoms_spec (ws := Cond.code yX12_law cX12_law 2 (some .int) :: xTB) B.pre w (List.mem_cons_of_mem _ hw), hK, hI, hE⟩ B.returns B.notSynchronized hf (fun t0 e => e.symm) ⟨hP, va_S.rf⟩ (lv_sub hl [0] rfl)
set_option maxHeartbeats 4000000 in
set_option maxRecDepth 100000 in
theorem w_X12_layNow_40 {x1 : Int32} (hM : xM p c cX12_layNow m s args RX12 2 D cy xmb a z) (hr : meth.sig.returnType = none) (hlk : meth.locks = false) {S' : xSt} {v' : Unit} {S : xSt} {q : ((xSt × Int32) ⊕ (xSt × Unit))} (h : f_X12_layNow_40 S x1 = some q) (k0 : ∀ t0 : xSt × Unit, q = (.inr t0) → t0 = (S', v')) (k1 : ∀ (S : xSt) (x1 : Int32), q = (.inl (S, x1)) → ∀ (H : Heap) (locs : List Loc) (ls : Array Slot), xG D cy xmb a S s H locs → lv_has ls 2 [(0, .ref (a 0)), (1, .int x1)] → W p l e ({ frames := 0, cells := 0, slots := 0, locals := 0 } : Room) s m args below meth c H locs 0 0 (MQ below (xQv D cy xmb a S' v' s.heap.size) args s 0 0 (xA xmb a s.heap.size)) (F0 m 40 ls [])) {H : Heap} {locs : List Loc} (hG : xG D cy xmb a S s H locs) {ls : Array Slot} (hl : lv_has ls 2 [(0, .ref (a 0)), (1, .int x1)]) : W p l e ({ frames := 0, cells := 0, slots := 0, locals := 0 } : Room) s m args below meth c H locs 0 0 (MQ below (xQv D cy xmb a S' v' s.heap.size) args s 0 0 (xA xmb a s.heap.size)) (F0 m 40 ls []) := by
  have hx := hM.1
  have hb := hM.2.1
  refine lv_iload_n hx hb dX12_layNow_40 rfl (lv_at hl 1 rfl) ?_
  refine lv_bipush (v := (30 : Int32)) hx hb dX12_layNow_41 (by decide) ?_
  refine x_icmp_ge (tgt := 100) hM h dX12_layNow_43 (by decide) (fun c_1 h => ?_) (fun c_1 h => ?_)
  · exact x_rv hM hG hr hlk (k0 _ (Option.some.inj h).symm) dX12_layNow_100
  · refine lv_aload_n hx hb dX12_layNow_46 rfl (lv_at hl 0 rfl) ?_
    refine x_gr (r := 23) hM hG xfl_X12_80 xmt_0 (by decide) rfl dX12_layNow_47 ?_
    refine lv_iload_n hx hb dX12_layNow_50 rfl (lv_at hl 1 rfl) ?_
    refine lv_aload_n hx hb dX12_layNow_51 rfl (lv_at hl 0 rfl) ?_
    refine x_gr (r := 2) hM hG xfl_X12_15 xmt_0 (by decide) rfl dX12_layNow_52 ?_
    refine lv_iload_n hx hb dX12_layNow_55 rfl (lv_at hl 1 rfl) ?_
    refine x_iald hM hG xmt_2 h dX12_layNow_56 (fun v_2 h => ?_)
    refine x_iast hM hG xmt_23 h dX12_layNow_57 (fun S_3 H locs h hG => ?_)
    refine lv_aload_n hx hb dX12_layNow_58 rfl (lv_at hl 0 rfl) ?_
    refine x_gr (r := 24) hM hG xfl_X12_83 xmt_0 (by decide) rfl dX12_layNow_59 ?_
    refine lv_iload_n hx hb dX12_layNow_62 rfl (lv_at hl 1 rfl) ?_
    refine lv_aload_n hx hb dX12_layNow_63 rfl (lv_at hl 0 rfl) ?_
    refine x_gr (r := 3) hM hG xfl_X12_18 xmt_0 (by decide) rfl dX12_layNow_64 ?_
    refine lv_iload_n hx hb dX12_layNow_67 rfl (lv_at hl 1 rfl) ?_
    refine x_iald hM hG xmt_3 h dX12_layNow_68 (fun v_4 h => ?_)
    refine x_iast hM hG xmt_24 h dX12_layNow_69 (fun S_5 H locs h hG => ?_)
    refine lv_aload_n hx hb dX12_layNow_70 rfl (lv_at hl 0 rfl) ?_
    refine x_gr (r := 25) hM hG xfl_X12_86 xmt_0 (by decide) rfl dX12_layNow_71 ?_
    refine lv_iload_n hx hb dX12_layNow_74 rfl (lv_at hl 1 rfl) ?_
    refine lv_aload_n hx hb dX12_layNow_75 rfl (lv_at hl 0 rfl) ?_
    refine x_gr (r := 4) hM hG xfl_X12_21 xmt_0 (by decide) rfl dX12_layNow_76 ?_
    refine lv_iload_n hx hb dX12_layNow_79 rfl (lv_at hl 1 rfl) ?_
    refine x_iald hM hG xmt_4 h dX12_layNow_80 (fun v_6 h => ?_)
    refine x_iast hM hG xmt_25 h dX12_layNow_81 (fun S_7 H locs h hG => ?_)
    refine lv_aload_n hx hb dX12_layNow_82 rfl (lv_at hl 0 rfl) ?_
    refine x_gr (r := 26) hM hG xfl_X12_89 xmt_0 (by decide) rfl dX12_layNow_83 ?_
    refine lv_iload_n hx hb dX12_layNow_86 rfl (lv_at hl 1 rfl) ?_
    refine lv_aload_n hx hb dX12_layNow_87 rfl (lv_at hl 0 rfl) ?_
    refine x_gr (r := 5) hM hG xfl_X12_24 xmt_0 (by decide) rfl dX12_layNow_88 ?_
    refine lv_iload_n hx hb dX12_layNow_91 rfl (lv_at hl 1 rfl) ?_
    refine x_iald hM hG xmt_5 h dX12_layNow_92 (fun v_8 h => ?_)
    refine x_iast hM hG xmt_26 h dX12_layNow_93 (fun S_9 H locs h hG => ?_)
    refine x_iinc hM (fun v => [(1, .int v), (0, .ref (a 0))]) h dX12_layNow_94 hl (k := 1) rfl (by decide) (by decide) (fun _ => rfl) (fun v_10 ls h hl => ?_)
    refine lv_goto (tgt := 40) hx hb dX12_layNow_97 (by decide) ?_
    exact k1 _ _ (Option.some.inj h).symm _ _ _ hG (lv_sub hl [1, 0] rfl)
theorem wl_X12_layNow_40 (hM : xM p c cX12_layNow m s args RX12 2 D cy xmb a z) (hr : meth.sig.returnType = none) (hlk : meth.locks = false) {S' : xSt} {v' : Unit} {q : (xSt × Unit)} (k0 : ∀ t0 : xSt × Unit, q = t0 → t0 = (S', v')) (n : Nat) : ∀ (S : xSt) (x1 : Int32) (H : Heap) (locs : List Loc) (ls : Array Slot), xlp (fun q : (xSt × Int32) => f_X12_layNow_40 q.1 q.2) n (S, x1) = some q → xG D cy xmb a S s H locs → lv_has ls 2 [(0, .ref (a 0)), (1, .int x1)] → W p l e ({ frames := 0, cells := 0, slots := 0, locals := 0 } : Room) s m args below meth c H locs 0 0 (MQ below (xQv D cy xmb a S' v' s.heap.size) args s 0 0 (xA xmb a s.heap.size)) (F0 m 40 ls []) := by
  induction n with
  | zero => intro S x1 H locs ls h; exact (xlp_0 h).elim
  | succ n ih =>
    intro S x1 H locs ls h hG hl
    obtain ⟨q1, hq, hc, he⟩ := xlp_at h
    exact w_X12_layNow_40 hM hr hlk (q := q1) hq (fun t0 e => k0 t0 (he _ e).symm) (fun S x1 e H locs ls hG hl => ih S x1 H locs ls (hc _ e) hG hl) hG hl
set_option maxHeartbeats 4000000 in
set_option maxRecDepth 100000 in
theorem w_X12_layNow_38 (hM : xM p c cX12_layNow m s args RX12 2 D cy xmb a z) (hr : meth.sig.returnType = none) (hlk : meth.locks = false) {S' : xSt} {v' : Unit} {S : xSt} {q : (xSt × Unit)} (h : f_X12_layNow_38 S = some q) (k0 : ∀ t0 : xSt × Unit, q = t0 → t0 = (S', v')) {H : Heap} {locs : List Loc} (hG : xG D cy xmb a S s H locs) {ls : Array Slot} (hl : lv_has ls 2 [(0, .ref (a 0))]) : W p l e ({ frames := 0, cells := 0, slots := 0, locals := 0 } : Room) s m args below meth c H locs 0 0 (MQ below (xQv D cy xmb a S' v' s.heap.size) args s 0 0 (xA xmb a s.heap.size)) (F0 m 38 ls []) := by
  have hx := hM.1
  have hb := hM.2.1
  refine lv_iconst (v := (0 : Int32)) hx hb dX12_layNow_38 (by decide) ?_
  refine lv_istore_n (lv' := [(1, .int (0 : Int32)), (0, .ref (a 0))]) hx hb dX12_layNow_39 rfl hl (by decide) rfl (fun ls hl => ?_)
  exact wl_X12_layNow_40 hM hr hlk (fun t0 e => k0 t0 e) 5000 _ _ _ _ _ h hG (lv_sub hl [1, 0] rfl)
set_option maxHeartbeats 4000000 in
set_option maxRecDepth 100000 in
theorem w_X12_layNow_2 {x1 : Int32} (hM : xM p c cX12_layNow m s args RX12 2 D cy xmb a z) (hr : meth.sig.returnType = none) (hlk : meth.locks = false) {S' : xSt} {v' : Unit} {S : xSt} {q : ((xSt × Int32) ⊕ (xSt × Unit))} (h : f_X12_layNow_2 S x1 = some q) (k0 : ∀ t0 : xSt × Unit, q = (.inr t0) → t0 = (S', v')) (k1 : ∀ (S : xSt) (x1 : Int32), q = (.inl (S, x1)) → ∀ (H : Heap) (locs : List Loc) (ls : Array Slot), xG D cy xmb a S s H locs → lv_has ls 2 [(0, .ref (a 0)), (1, .int x1)] → W p l e ({ frames := 0, cells := 0, slots := 0, locals := 0 } : Room) s m args below meth c H locs 0 0 (MQ below (xQv D cy xmb a S' v' s.heap.size) args s 0 0 (xA xmb a s.heap.size)) (F0 m 2 ls [])) {H : Heap} {locs : List Loc} (hG : xG D cy xmb a S s H locs) {ls : Array Slot} (hl : lv_has ls 2 [(0, .ref (a 0)), (1, .int x1)]) : W p l e ({ frames := 0, cells := 0, slots := 0, locals := 0 } : Room) s m args below meth c H locs 0 0 (MQ below (xQv D cy xmb a S' v' s.heap.size) args s 0 0 (xA xmb a s.heap.size)) (F0 m 2 ls []) := by
  have hx := hM.1
  have hb := hM.2.1
  refine lv_iload_n hx hb dX12_layNow_2 rfl (lv_at hl 1 rfl) ?_
  refine lv_bipush (v := (6 : Int32)) hx hb dX12_layNow_3 (by decide) ?_
  refine x_icmp_ge (tgt := 38) hM h dX12_layNow_5 (by decide) (fun c_1 h => ?_) (fun c_1 h => ?_)
  · obtain ⟨q1, h, e1⟩ := xmr_at h
    exact w_X12_layNow_38 hM hr hlk h (fun t0 e => k0 t0 (by rw [e1, e])) hG (lv_sub hl [0] rfl)
  · refine lv_aload_n hx hb dX12_layNow_8 rfl (lv_at hl 0 rfl) ?_
    refine x_gr (r := 22) hM hG xfl_X12_77 xmt_0 (by decide) rfl dX12_layNow_9 ?_
    refine lv_iload_n hx hb dX12_layNow_12 rfl (lv_at hl 1 rfl) ?_
    refine lv_aload_n hx hb dX12_layNow_13 rfl (lv_at hl 0 rfl) ?_
    refine x_gr (r := 1) hM hG xfl_X12_9 xmt_0 (by decide) rfl dX12_layNow_14 ?_
    refine lv_iload_n hx hb dX12_layNow_17 rfl (lv_at hl 1 rfl) ?_
    refine x_iald hM hG xmt_1 h dX12_layNow_18 (fun v_2 h => ?_)
    refine x_iast hM hG xmt_22 h dX12_layNow_19 (fun S_3 H locs h hG => ?_)
    refine lv_aload_n hx hb dX12_layNow_20 rfl (lv_at hl 0 rfl) ?_
    refine x_gr (r := 27) hM hG xfl_X12_92 xmt_0 (by decide) rfl dX12_layNow_21 ?_
    refine lv_iload_n hx hb dX12_layNow_24 rfl (lv_at hl 1 rfl) ?_
    refine lv_aload_n hx hb dX12_layNow_25 rfl (lv_at hl 0 rfl) ?_
    refine x_gr (r := 7) hM hG xfl_X12_30 xmt_0 (by decide) rfl dX12_layNow_26 ?_
    refine lv_iload_n hx hb dX12_layNow_29 rfl (lv_at hl 1 rfl) ?_
    refine x_iald hM hG xmt_7 h dX12_layNow_30 (fun v_4 h => ?_)
    refine x_iast hM hG xmt_27 h dX12_layNow_31 (fun S_5 H locs h hG => ?_)
    refine x_iinc hM (fun v => [(1, .int v), (0, .ref (a 0))]) h dX12_layNow_32 hl (k := 1) rfl (by decide) (by decide) (fun _ => rfl) (fun v_6 ls h hl => ?_)
    refine lv_goto (tgt := 2) hx hb dX12_layNow_35 (by decide) ?_
    exact k1 _ _ (Option.some.inj h).symm _ _ _ hG (lv_sub hl [1, 0] rfl)
theorem wl_X12_layNow_2 (hM : xM p c cX12_layNow m s args RX12 2 D cy xmb a z) (hr : meth.sig.returnType = none) (hlk : meth.locks = false) {S' : xSt} {v' : Unit} {q : (xSt × Unit)} (k0 : ∀ t0 : xSt × Unit, q = t0 → t0 = (S', v')) (n : Nat) : ∀ (S : xSt) (x1 : Int32) (H : Heap) (locs : List Loc) (ls : Array Slot), xlp (fun q : (xSt × Int32) => f_X12_layNow_2 q.1 q.2) n (S, x1) = some q → xG D cy xmb a S s H locs → lv_has ls 2 [(0, .ref (a 0)), (1, .int x1)] → W p l e ({ frames := 0, cells := 0, slots := 0, locals := 0 } : Room) s m args below meth c H locs 0 0 (MQ below (xQv D cy xmb a S' v' s.heap.size) args s 0 0 (xA xmb a s.heap.size)) (F0 m 2 ls []) := by
  induction n with
  | zero => intro S x1 H locs ls h; exact (xlp_0 h).elim
  | succ n ih =>
    intro S x1 H locs ls h hG hl
    obtain ⟨q1, hq, hc, he⟩ := xlp_at h
    exact w_X12_layNow_2 hM hr hlk (q := q1) hq (fun t0 e => k0 t0 (he _ e).symm) (fun S x1 e H locs ls hG hl => ih S x1 H locs ls (hc _ e) hG hl) hG hl
set_option maxHeartbeats 4000000 in
set_option maxRecDepth 100000 in
theorem w_X12_layNow_0 (hM : xM p c cX12_layNow m s args RX12 2 D cy xmb a z) (hr : meth.sig.returnType = none) (hlk : meth.locks = false) {S' : xSt} {v' : Unit} {S : xSt} {q : (xSt × Unit)} (h : f_X12_layNow_0 S = some q) (k0 : ∀ t0 : xSt × Unit, q = t0 → t0 = (S', v')) {H : Heap} {locs : List Loc} (hG : xG D cy xmb a S s H locs) {ls : Array Slot} (hl : lv_has ls 2 [(0, .ref (a 0))]) : W p l e ({ frames := 0, cells := 0, slots := 0, locals := 0 } : Room) s m args below meth c H locs 0 0 (MQ below (xQv D cy xmb a S' v' s.heap.size) args s 0 0 (xA xmb a s.heap.size)) (F0 m 0 ls []) := by
  have hx := hM.1
  have hb := hM.2.1
  refine lv_iconst (v := (0 : Int32)) hx hb dX12_layNow_0 (by decide) ?_
  refine lv_istore_n (lv' := [(1, .int (0 : Int32)), (0, .ref (a 0))]) hx hb dX12_layNow_1 rfl hl (by decide) rfl (fun ls hl => ?_)
  exact wl_X12_layNow_2 hM hr hlk (fun t0 e => k0 t0 e) 5000 _ _ _ _ _ h hG (lv_sub hl [1, 0] rfl)
set_option maxHeartbeats 4000000 in
set_option maxRecDepth 100000 in
theorem c_X12_layNow {l : Launch} {D : va_G} {cy : Nat → ClassId} {a z : Nat → Nat} (hI : xI xmb a) {S : xSt} {S' : xSt} {v' : Unit} (hf : f_X12_layNow S = some (S', v')) (sz : Nat) : Met l yX12_layNow (Cond.code yX12_layNow cX12_layNow 2 none :: xTB) ({ frames := 0, cells := 0, slots := 0, locals := 0 } : Room) (va_Pc [.ref (a 0)] (xPre D cy xmb a z S sz)) (xQv D cy xmb a S' v' sz) 0 0 (xA xmb a sz) := by
  refine Met.ofW (cc := cX12_layNow) (maxL := 2) (ret := none) (by decide) rfl ?_
  intro p e s m args below meth c s₁ B hml hv
  obtain ⟨rfl, hsz, hP, hK, hE⟩ := hv
  subst hsz
  have hl := lv_entry ([.ref (a 0)]) (n := 2) (Nat.le_of_ble_eq_true rfl)
  rw [lg_entry_eq]
  generalize (lg_sl ([.ref (a 0)]) ++ List.replicate (2 - (lg_sl ([.ref (a 0)])).length) Slot.unset).toArray = ls at hl ⊢
  have hl : lv_has ls 2 [(0, .ref (a 0))] := hl
  exact w_X12_layNow_0 ⟨B.exec, B.bytes, hml, findClass_of_methodNamed B.named, fun w hw => atoms_spec (ws := Cond.code yX12_layNow cX12_layNow 2 none :: xTB) B.pre w (List.mem_cons_of_mem _ hw), hK, hI, hE⟩ B.returns B.notSynchronized hf (fun t0 e => e.symm) ⟨hP, va_S.rf⟩ (lv_sub hl [0] rfl)
set_option maxHeartbeats 4000000 in
set_option maxRecDepth 100000 in
theorem w_X12_isThere_27 (hM : xM p c cX12_isThere m s args RX12 3 D cy xmb a z) (hr : meth.sig.returnType = (some .boolean)) (hlk : meth.locks = false) {S' : xSt} {v' : Int32} {S : xSt} {q : (xSt × Int32)} (h : f_X12_isThere_27 S = some q) (k0 : ∀ t0 : xSt × Int32, q = t0 → t0 = (S', v')) {H : Heap} {locs : List Loc} (hG : xG D cy xmb a S s H locs) {ls : Array Slot} (hl : lv_has ls 3 []) : W p l e ({ frames := 2, cells := 0, slots := 0, locals := 42 } : Room) s m args below meth c H locs 0 0 (MQ below (xQi D cy xmb a S' v' s.heap.size) args s 0 0 (xA xmb a s.heap.size)) (F0 m 27 ls []) := by
  have hx := hM.1
  have hb := hM.2.1
  refine lv_iconst (v := (0 : Int32)) hx hb dX12_isThere_27 (by decide) ?_
  obtain ⟨hz, h⟩ := xgd_at h
  exact x_ri hM hG hr hlk (x_nz hz) (k0 _ (Option.some.inj h).symm) dX12_isThere_28
set_option maxHeartbeats 4000000 in
set_option maxRecDepth 100000 in
theorem w_X12_isThere_0 {x1 : Int32} {x2 : Int32} (hM : xM p c cX12_isThere m s args RX12 3 D cy xmb a z) (hr : meth.sig.returnType = (some .boolean)) (hlk : meth.locks = false) {S' : xSt} {v' : Int32} {S : xSt} {q : (xSt × Int32)} (h : f_X12_isThere_0 x1 x2 S = some q) (k0 : ∀ t0 : xSt × Int32, q = t0 → t0 = (S', v')) {H : Heap} {locs : List Loc} (hG : xG D cy xmb a S s H locs) {ls : Array Slot} (hl : lv_has ls 3 [(0, .ref (a 0)), (1, .int x1), (2, .int x2)]) : W p l e ({ frames := 2, cells := 0, slots := 0, locals := 42 } : Room) s m args below meth c H locs 0 0 (MQ below (xQi D cy xmb a S' v' s.heap.size) args s 0 0 (xA xmb a s.heap.size)) (F0 m 0 ls []) := by
  have hx := hM.1
  have hb := hM.2.1
  refine lv_iload_n hx hb dX12_isThere_0 rfl (lv_at hl 1 rfl) ?_
  refine x_cSi (As := [.int x1]) (rest := []) hM hG xml_X12_146 xwt_X12_isColumn h (fun S' v e => c_X12_isColumn hM.2.2.2.2.2.2.1 e _) ⟨Nat.le_of_ble_eq_true rfl, Nat.le_of_ble_eq_true rfl⟩ rfl hl.1 rfl (Nat.le_of_ble_eq_true rfl) dX12_isThere_1 (fun S_1 v_2 H locs h hG => ?_)
  refine x_if_eq (tgt := 27) hM h dX12_isThere_4 (by decide) (fun c_3 h => ?_) (fun c_3 h => ?_)
  · exact w_X12_isThere_27 hM hr hlk h (fun t0 e => k0 t0 e) hG (lv_sub hl [] rfl)
  · refine lv_iload_n hx hb dX12_isThere_7 rfl (lv_at hl 2 rfl) ?_
    refine lv_iconst (v := (0 : Int32)) hx hb dX12_isThere_8 (by decide) ?_
    refine lv_aload_n hx hb dX12_isThere_9 rfl (lv_at hl 0 rfl) ?_
    refine x_gr (r := 22) hM hG xfl_X12_77 xmt_0 (by decide) rfl dX12_isThere_10 ?_
    refine lv_iload_n hx hb dX12_isThere_13 rfl (lv_at hl 1 rfl) ?_
    refine x_iald hM hG xmt_22 h dX12_isThere_14 (fun v_4 h => ?_)
    refine lv_iconst (v := (1 : Int32)) hx hb dX12_isThere_15 (by decide) ?_
    refine x_isub hM h dX12_isThere_16 (fun v_5 h => ?_)
    refine x_cSi (As := [.int x2, .int (0 : Int32), .int v_5]) (rest := []) hM hG xml_X12_142 xwt_X12_in h (fun S' v e => c_X12_in hM.2.2.2.2.2.2.1 e _) ⟨Nat.le_of_ble_eq_true rfl, Nat.le_of_ble_eq_true rfl⟩ rfl hl.1 rfl (Nat.le_of_ble_eq_true rfl) dX12_isThere_17 (fun S_6 v_7 H locs h hG => ?_)
    refine x_if_eq (tgt := 27) hM h dX12_isThere_20 (by decide) (fun c_8 h => ?_) (fun c_8 h => ?_)
    · exact w_X12_isThere_27 hM hr hlk h (fun t0 e => k0 t0 e) hG (lv_sub hl [] rfl)
    · refine lv_iconst (v := (1 : Int32)) hx hb dX12_isThere_23 (by decide) ?_
      refine lv_goto (tgt := 28) hx hb dX12_isThere_24 (by decide) ?_
      obtain ⟨hz, h⟩ := xgd_at h
      exact x_ri hM hG hr hlk (x_nz hz) (k0 _ (Option.some.inj h).symm) dX12_isThere_28
set_option maxHeartbeats 4000000 in
set_option maxRecDepth 100000 in
theorem c_X12_isThere {l : Launch} {D : va_G} {cy : Nat → ClassId} {a z : Nat → Nat} (hI : xI xmb a) {S : xSt} {x1 : Int32} {x2 : Int32} {S' : xSt} {v' : Int32} (hf : f_X12_isThere S x1 x2 = some (S', v')) (sz : Nat) : Met l yX12_isThere (Cond.code yX12_isThere cX12_isThere 3 (some .boolean) :: xTB) ({ frames := 2, cells := 0, slots := 0, locals := 42 } : Room) (va_Pc [.ref (a 0), .int x1, .int x2] (xPre D cy xmb a z S sz)) (xQi D cy xmb a S' v' sz) 0 0 (xA xmb a sz) := by
  refine Met.ofW (cc := cX12_isThere) (maxL := 3) (ret := (some .boolean)) (by decide) rfl ?_
  intro p e s m args below meth c s₁ B hml hv
  obtain ⟨rfl, hsz, hP, hK, hE⟩ := hv
  subst hsz
  have hl := lv_entry ([.ref (a 0), .int x1, .int x2]) (n := 3) (Nat.le_of_ble_eq_true rfl)
  rw [lg_entry_eq]
  generalize (lg_sl ([.ref (a 0), .int x1, .int x2]) ++ List.replicate (3 - (lg_sl ([.ref (a 0), .int x1, .int x2])).length) Slot.unset).toArray = ls at hl ⊢
  have hl : lv_has ls 3 [(0, .ref (a 0)), (1, .int x1), (2, .int x2)] := hl
  exact w_X12_isThere_0 ⟨B.exec, B.bytes, hml, findClass_of_methodNamed B.named, fun w hw => atoms_spec (ws := Cond.code yX12_isThere cX12_isThere 3 (some .boolean) :: xTB) B.pre w (List.mem_cons_of_mem _ hw), hK, hI, hE⟩ B.returns B.notSynchronized hf (fun t0 e => e.symm) ⟨hP, va_S.rf⟩ (lv_sub hl [0, 1, 2] rfl)
set_option maxHeartbeats 4000000 in
set_option maxRecDepth 100000 in
theorem w_X12_beside_45 {x3 : Int32} {y0 : Int32} {y1 : Int32} (hM : xM p c cX12_beside m s args RX12 5 D cy xmb a z) (hr : meth.sig.returnType = (some .int)) (hlk : meth.locks = false) {S' : xSt} {v' : Int32} {S : xSt} {q : (xSt × Int32)} (h : f_X12_beside_45 x3 y0 y1 S = some q) (k0 : ∀ t0 : xSt × Int32, q = t0 → t0 = (S', v')) {H : Heap} {locs : List Loc} (hG : xG D cy xmb a S s H locs) {ls : Array Slot} (hl : lv_has ls 5 [(0, .ref (a 0)), (3, .int x3)]) : W p l e ({ frames := 3, cells := 0, slots := 0, locals := 64 } : Room) s m args below meth c H locs 0 0 (MQ below (xQi D cy xmb a S' v' s.heap.size) args s 0 0 (xA xmb a s.heap.size)) (F0 m 45 ls [.int y1, .int y0]) := by
  have hx := hM.1
  have hb := hM.2.1
  refine x_iadd hM h dX12_beside_45 (fun v_1 h => ?_)
  refine lv_istore (lv' := [(4, .int v_1), (0, .ref (a 0)), (3, .int x3)]) hx hb dX12_beside_46 hl (by decide) rfl (fun ls hl => ?_)
  refine lv_aload_n hx hb dX12_beside_48 rfl (lv_at hl 1 rfl) ?_
  refine lv_iload_n hx hb dX12_beside_49 rfl (lv_at hl 2 rfl) ?_
  refine lv_iload hx hb dX12_beside_50 (lv_at hl 0 rfl) ?_
  refine x_cVi (As := [.int x3, .int v_1]) (rest := []) hM hG xml_X12_257 xwi_X12_isThere xws_X12_isThere xmt_0 (by decide) rfl h (fun S' v e => c_X12_isThere hM.2.2.2.2.2.2.1 e _) ⟨Nat.le_of_ble_eq_true rfl, Nat.le_of_ble_eq_true rfl⟩ rfl hl.1 rfl (Nat.le_of_ble_eq_true rfl) dX12_beside_52 (fun S_2 v_3 H locs h hG => ?_)
  refine x_if_eq (tgt := 67) hM h dX12_beside_55 (by decide) (fun c_4 h => ?_) (fun c_4 h => ?_)
  · refine lv_bipush (v := (-2 : Int32)) hx hb dX12_beside_67 (by decide) ?_
    exact x_ri hM hG hr hlk rfl (k0 _ (Option.some.inj h).symm) dX12_beside_69
  · refine lv_iconst (v := (5 : Int32)) hx hb dX12_beside_58 (by decide) ?_
    refine lv_iload_n hx hb dX12_beside_59 rfl (lv_at hl 2 rfl) ?_
    refine x_imul hM h dX12_beside_60 (fun v_5 h => ?_)
    refine lv_iload hx hb dX12_beside_61 (lv_at hl 0 rfl) ?_
    refine x_iadd hM h dX12_beside_63 (fun v_6 h => ?_)
    refine lv_goto (tgt := 69) hx hb dX12_beside_64 (by decide) ?_
    exact x_ri hM hG hr hlk rfl (k0 _ (Option.some.inj h).symm) dX12_beside_69
set_option maxHeartbeats 4000000 in
set_option maxRecDepth 100000 in
theorem w_X12_beside_22 {x1 : Int32} {x2 : Int32} {y0 : Int32} {y1 : Int32} (hM : xM p c cX12_beside m s args RX12 5 D cy xmb a z) (hr : meth.sig.returnType = (some .int)) (hlk : meth.locks = false) {S' : xSt} {v' : Int32} {S : xSt} {q : (xSt × Int32)} (h : f_X12_beside_22 x1 x2 y0 y1 S = some q) (k0 : ∀ t0 : xSt × Int32, q = t0 → t0 = (S', v')) {H : Heap} {locs : List Loc} (hG : xG D cy xmb a S s H locs) {ls : Array Slot} (hl : lv_has ls 5 [(0, .ref (a 0)), (1, .int x1), (2, .int x2)]) : W p l e ({ frames := 3, cells := 0, slots := 0, locals := 64 } : Room) s m args below meth c H locs 0 0 (MQ below (xQi D cy xmb a S' v' s.heap.size) args s 0 0 (xA xmb a s.heap.size)) (F0 m 22 ls [.int y1, .int y0]) := by
  have hx := hM.1
  have hb := hM.2.1
  refine x_iadd hM h dX12_beside_22 (fun v_1 h => ?_)
  refine lv_istore_n (lv' := [(3, .int v_1), (0, .ref (a 0)), (1, .int x1), (2, .int x2)]) hx hb dX12_beside_23 rfl hl (by decide) rfl (fun ls hl => ?_)
  refine lv_iload_n hx hb dX12_beside_24 rfl (lv_at hl 2 rfl) ?_
  refine lv_iconst (v := (5 : Int32)) hx hb dX12_beside_25 (by decide) ?_
  refine x_irem hM h dX12_beside_26 (fun v_2 h => ?_)
  refine lv_iload_n hx hb dX12_beside_27 rfl (lv_at hl 3 rfl) ?_
  refine x_if_ne (tgt := 35) hM h dX12_beside_28 (by decide) (fun c_3 h => ?_) (fun c_3 h => ?_)
  · refine lv_iload_n hx hb dX12_beside_35 rfl (lv_at hl 3 rfl) ?_
    refine lv_iconst (v := (1 : Int32)) hx hb dX12_beside_36 (by decide) ?_
    refine x_icmp_ne (tgt := 44) hM h dX12_beside_37 (by decide) (fun c_4 h => ?_) (fun c_4 h => ?_)
    · refine lv_iconst (v := (0 : Int32)) hx hb dX12_beside_44 (by decide) ?_
      exact w_X12_beside_45 hM hr hlk h (fun t0 e => k0 t0 e) hG (lv_sub hl [1, 0] rfl)
    · refine lv_iconst (v := (-1 : Int32)) hx hb dX12_beside_40 (by decide) ?_
      refine lv_goto (tgt := 45) hx hb dX12_beside_41 (by decide) ?_
      exact w_X12_beside_45 hM hr hlk h (fun t0 e => k0 t0 e) hG (lv_sub hl [1, 0] rfl)
  · refine lv_iconst (v := (1 : Int32)) hx hb dX12_beside_31 (by decide) ?_
    refine lv_goto (tgt := 45) hx hb dX12_beside_32 (by decide) ?_
    exact w_X12_beside_45 hM hr hlk h (fun t0 e => k0 t0 e) hG (lv_sub hl [1, 0] rfl)
set_option maxHeartbeats 4000000 in
set_option maxRecDepth 100000 in
theorem w_X12_beside_0 {x1 : Int32} {x2 : Int32} (hM : xM p c cX12_beside m s args RX12 5 D cy xmb a z) (hr : meth.sig.returnType = (some .int)) (hlk : meth.locks = false) {S' : xSt} {v' : Int32} {S : xSt} {q : (xSt × Int32)} (h : f_X12_beside_0 x1 x2 S = some q) (k0 : ∀ t0 : xSt × Int32, q = t0 → t0 = (S', v')) {H : Heap} {locs : List Loc} (hG : xG D cy xmb a S s H locs) {ls : Array Slot} (hl : lv_has ls 5 [(0, .ref (a 0)), (1, .int x1), (2, .int x2)]) : W p l e ({ frames := 3, cells := 0, slots := 0, locals := 64 } : Room) s m args below meth c H locs 0 0 (MQ below (xQi D cy xmb a S' v' s.heap.size) args s 0 0 (xA xmb a s.heap.size)) (F0 m 0 ls []) := by
  have hx := hM.1
  have hb := hM.2.1
  refine lv_iload_n hx hb dX12_beside_0 rfl (lv_at hl 1 rfl) ?_
  refine lv_iconst (v := (5 : Int32)) hx hb dX12_beside_1 (by decide) ?_
  refine x_idiv hM h dX12_beside_2 (fun v_1 h => ?_)
  refine lv_iload_n hx hb dX12_beside_3 rfl (lv_at hl 2 rfl) ?_
  refine lv_iconst (v := (2 : Int32)) hx hb dX12_beside_4 (by decide) ?_
  refine x_icmp_ne (tgt := 12) hM h dX12_beside_5 (by decide) (fun c_2 h => ?_) (fun c_2 h => ?_)
  · refine lv_iload_n hx hb dX12_beside_12 rfl (lv_at hl 2 rfl) ?_
    refine lv_iconst (v := (3 : Int32)) hx hb dX12_beside_13 (by decide) ?_
    refine x_icmp_ne (tgt := 21) hM h dX12_beside_14 (by decide) (fun c_3 h => ?_) (fun c_3 h => ?_)
    · refine lv_iconst (v := (0 : Int32)) hx hb dX12_beside_21 (by decide) ?_
      exact w_X12_beside_22 hM hr hlk h (fun t0 e => k0 t0 e) hG (lv_sub hl [0, 1, 2] rfl)
    · refine lv_iconst (v := (1 : Int32)) hx hb dX12_beside_17 (by decide) ?_
      refine lv_goto (tgt := 22) hx hb dX12_beside_18 (by decide) ?_
      exact w_X12_beside_22 hM hr hlk h (fun t0 e => k0 t0 e) hG (lv_sub hl [0, 1, 2] rfl)
  · refine lv_iconst (v := (-1 : Int32)) hx hb dX12_beside_8 (by decide) ?_
    refine lv_goto (tgt := 22) hx hb dX12_beside_9 (by decide) ?_
    exact w_X12_beside_22 hM hr hlk h (fun t0 e => k0 t0 e) hG (lv_sub hl [0, 1, 2] rfl)
set_option maxHeartbeats 4000000 in
set_option maxRecDepth 100000 in
theorem c_X12_beside {l : Launch} {D : va_G} {cy : Nat → ClassId} {a z : Nat → Nat} (hI : xI xmb a) {S : xSt} {x1 : Int32} {x2 : Int32} {S' : xSt} {v' : Int32} (hf : f_X12_beside S x1 x2 = some (S', v')) (sz : Nat) : Met l yX12_beside (Cond.code yX12_beside cX12_beside 5 (some .int) :: xTB) ({ frames := 3, cells := 0, slots := 0, locals := 64 } : Room) (va_Pc [.ref (a 0), .int x1, .int x2] (xPre D cy xmb a z S sz)) (xQi D cy xmb a S' v' sz) 0 0 (xA xmb a sz) := by
  refine Met.ofW (cc := cX12_beside) (maxL := 5) (ret := (some .int)) (by decide) rfl ?_
  intro p e s m args below meth c s₁ B hml hv
  obtain ⟨rfl, hsz, hP, hK, hE⟩ := hv
  subst hsz
  have hl := lv_entry ([.ref (a 0), .int x1, .int x2]) (n := 5) (Nat.le_of_ble_eq_true rfl)
  rw [lg_entry_eq]
  generalize (lg_sl ([.ref (a 0), .int x1, .int x2]) ++ List.replicate (5 - (lg_sl ([.ref (a 0), .int x1, .int x2])).length) Slot.unset).toArray = ls at hl ⊢
  have hl : lv_has ls 5 [(0, .ref (a 0)), (1, .int x1), (2, .int x2)] := hl
  exact w_X12_beside_0 ⟨B.exec, B.bytes, hml, findClass_of_methodNamed B.named, fun w hw => atoms_spec (ws := Cond.code yX12_beside cX12_beside 5 (some .int) :: xTB) B.pre w (List.mem_cons_of_mem _ hw), hK, hI, hE⟩ B.returns B.notSynchronized hf (fun t0 e => e.symm) ⟨hP, va_S.rf⟩ (lv_sub hl [0, 1, 2] rfl)
set_option maxHeartbeats 4000000 in
set_option maxRecDepth 100000 in
theorem w_X12_airOf_42 {x1 : Int32} {x2 : Int32} {x3 : Int32} (hM : xM p c cX12_airOf m s args RX12 4 D cy xmb a z) (hr : meth.sig.returnType = (some .int)) (hlk : meth.locks = false) {S' : xSt} {v' : Int32} {S : xSt} {q : ((xSt × Int32 × Int32) ⊕ (xSt × Int32))} (h : f_X12_airOf_42 x1 x2 x3 S = some q) (k0 : ∀ t0 : xSt × Int32, q = (.inr t0) → t0 = (S', v')) (k1 : ∀ (S : xSt) (x2 : Int32) (x3 : Int32), q = (.inl (S, x2, x3)) → ∀ (H : Heap) (locs : List Loc) (ls : Array Slot), xG D cy xmb a S s H locs → lv_has ls 4 [(0, .ref (a 0)), (1, .int x1), (2, .int x2), (3, .int x3)] → W p l e ({ frames := 4, cells := 0, slots := 0, locals := 88 } : Room) s m args below meth c H locs 0 0 (MQ below (xQi D cy xmb a S' v' s.heap.size) args s 0 0 (xA xmb a s.heap.size)) (F0 m 20 ls [])) {H : Heap} {locs : List Loc} (hG : xG D cy xmb a S s H locs) {ls : Array Slot} (hl : lv_has ls 4 [(0, .ref (a 0)), (1, .int x1), (2, .int x2), (3, .int x3)]) : W p l e ({ frames := 4, cells := 0, slots := 0, locals := 88 } : Room) s m args below meth c H locs 0 0 (MQ below (xQi D cy xmb a S' v' s.heap.size) args s 0 0 (xA xmb a s.heap.size)) (F0 m 42 ls []) := by
  have hx := hM.1
  have hb := hM.2.1
  refine x_iinc hM (fun v => [(3, .int v), (0, .ref (a 0)), (1, .int x1), (2, .int x2)]) h dX12_airOf_42 hl (k := 3) rfl (by decide) (by decide) (fun _ => rfl) (fun v_1 ls h hl => ?_)
  refine lv_goto (tgt := 20) hx hb dX12_airOf_45 (by decide) ?_
  exact k1 _ _ _ (Option.some.inj h).symm _ _ _ hG (lv_sub hl [1, 2, 3, 0] rfl)
set_option maxHeartbeats 4000000 in
set_option maxRecDepth 100000 in
theorem w_X12_airOf_20 {x1 : Int32} {x2 : Int32} {x3 : Int32} (hM : xM p c cX12_airOf m s args RX12 4 D cy xmb a z) (hr : meth.sig.returnType = (some .int)) (hlk : meth.locks = false) {S' : xSt} {v' : Int32} {S : xSt} {q : ((xSt × Int32 × Int32) ⊕ (xSt × Int32))} (h : f_X12_airOf_20 x1 S x2 x3 = some q) (k0 : ∀ t0 : xSt × Int32, q = (.inr t0) → t0 = (S', v')) (k1 : ∀ (S : xSt) (x2 : Int32) (x3 : Int32), q = (.inl (S, x2, x3)) → ∀ (H : Heap) (locs : List Loc) (ls : Array Slot), xG D cy xmb a S s H locs → lv_has ls 4 [(0, .ref (a 0)), (1, .int x1), (2, .int x2), (3, .int x3)] → W p l e ({ frames := 4, cells := 0, slots := 0, locals := 88 } : Room) s m args below meth c H locs 0 0 (MQ below (xQi D cy xmb a S' v' s.heap.size) args s 0 0 (xA xmb a s.heap.size)) (F0 m 20 ls [])) {H : Heap} {locs : List Loc} (hG : xG D cy xmb a S s H locs) {ls : Array Slot} (hl : lv_has ls 4 [(0, .ref (a 0)), (1, .int x1), (2, .int x2), (3, .int x3)]) : W p l e ({ frames := 4, cells := 0, slots := 0, locals := 88 } : Room) s m args below meth c H locs 0 0 (MQ below (xQi D cy xmb a S' v' s.heap.size) args s 0 0 (xA xmb a s.heap.size)) (F0 m 20 ls []) := by
  have hx := hM.1
  have hb := hM.2.1
  refine lv_iload_n hx hb dX12_airOf_20 rfl (lv_at hl 3 rfl) ?_
  refine lv_iconst (v := (4 : Int32)) hx hb dX12_airOf_21 (by decide) ?_
  refine x_icmp_ge (tgt := 48) hM h dX12_airOf_22 (by decide) (fun c_1 h => ?_) (fun c_1 h => ?_)
  · refine lv_iload_n hx hb dX12_airOf_48 rfl (lv_at hl 2 rfl) ?_
    exact x_ri hM hG hr hlk rfl (k0 _ (Option.some.inj h).symm) dX12_airOf_49
  · refine lv_iload_n hx hb dX12_airOf_25 rfl (lv_at hl 3 rfl) ?_
    refine lv_iconst (v := (1 : Int32)) hx hb dX12_airOf_26 (by decide) ?_
    refine x_icmp_eq (tgt := 42) hM h dX12_airOf_27 (by decide) (fun c_2 h => ?_) (fun c_2 h => ?_)
    · exact w_X12_airOf_42 hM hr hlk h (fun t0 e => k0 t0 e) (fun S x2 x3 e => k1 S x2 x3 e) hG (lv_sub hl [0, 1, 2, 3] rfl)
    · refine lv_aload_n hx hb dX12_airOf_30 rfl (lv_at hl 0 rfl) ?_
      refine lv_iload_n hx hb dX12_airOf_31 rfl (lv_at hl 1 rfl) ?_
      refine lv_iload_n hx hb dX12_airOf_32 rfl (lv_at hl 3 rfl) ?_
      refine x_cVi (As := [.int x1, .int x3]) (rest := []) hM hG xml_X12_260 xwi_X12_beside xws_X12_beside xmt_0 (by decide) rfl h (fun S' v e => c_X12_beside hM.2.2.2.2.2.2.1 e _) ⟨Nat.le_of_ble_eq_true rfl, Nat.le_of_ble_eq_true rfl⟩ rfl hl.1 rfl (Nat.le_of_ble_eq_true rfl) dX12_airOf_33 (fun S_3 v_4 H locs h hG => ?_)
      refine x_if_ge (tgt := 42) hM h dX12_airOf_36 (by decide) (fun c_5 h => ?_) (fun c_5 h => ?_)
      · exact w_X12_airOf_42 hM hr hlk h (fun t0 e => k0 t0 e) (fun S x2 x3 e => k1 S x2 x3 e) hG (lv_sub hl [0, 1, 2, 3] rfl)
      · refine x_iinc hM (fun v => [(2, .int v), (0, .ref (a 0)), (1, .int x1), (3, .int x3)]) h dX12_airOf_39 hl (k := 2) rfl (by decide) (by decide) (fun _ => rfl) (fun v_6 ls h hl => ?_)
        exact w_X12_airOf_42 hM hr hlk h (fun t0 e => k0 t0 e) (fun S x2 x3 e => k1 S x2 x3 e) hG (lv_sub hl [1, 2, 0, 3] rfl)
theorem wl_X12_airOf_20 {x1 : Int32} (hM : xM p c cX12_airOf m s args RX12 4 D cy xmb a z) (hr : meth.sig.returnType = (some .int)) (hlk : meth.locks = false) {S' : xSt} {v' : Int32} {q : (xSt × Int32)} (k0 : ∀ t0 : xSt × Int32, q = t0 → t0 = (S', v')) (n : Nat) : ∀ (S : xSt) (x2 : Int32) (x3 : Int32) (H : Heap) (locs : List Loc) (ls : Array Slot), xlp (fun q : (xSt × Int32 × Int32) => f_X12_airOf_20 x1 q.1 q.2.1 q.2.2) n (S, x2, x3) = some q → xG D cy xmb a S s H locs → lv_has ls 4 [(0, .ref (a 0)), (1, .int x1), (2, .int x2), (3, .int x3)] → W p l e ({ frames := 4, cells := 0, slots := 0, locals := 88 } : Room) s m args below meth c H locs 0 0 (MQ below (xQi D cy xmb a S' v' s.heap.size) args s 0 0 (xA xmb a s.heap.size)) (F0 m 20 ls []) := by
  induction n with
  | zero => intro S x2 x3 H locs ls h; exact (xlp_0 h).elim
  | succ n ih =>
    intro S x2 x3 H locs ls h hG hl
    obtain ⟨q1, hq, hc, he⟩ := xlp_at h
    exact w_X12_airOf_20 hM hr hlk (q := q1) hq (fun t0 e => k0 t0 (he _ e).symm) (fun S x2 x3 e H locs ls hG hl => ih S x2 x3 H locs ls (hc _ e) hG hl) hG hl
set_option maxHeartbeats 4000000 in
set_option maxRecDepth 100000 in
theorem w_X12_airOf_17 {x1 : Int32} {y0 : Int32} (hM : xM p c cX12_airOf m s args RX12 4 D cy xmb a z) (hr : meth.sig.returnType = (some .int)) (hlk : meth.locks = false) {S' : xSt} {v' : Int32} {S : xSt} {q : (xSt × Int32)} (h : f_X12_airOf_17 x1 y0 S = some q) (k0 : ∀ t0 : xSt × Int32, q = t0 → t0 = (S', v')) {H : Heap} {locs : List Loc} (hG : xG D cy xmb a S s H locs) {ls : Array Slot} (hl : lv_has ls 4 [(0, .ref (a 0)), (1, .int x1)]) : W p l e ({ frames := 4, cells := 0, slots := 0, locals := 88 } : Room) s m args below meth c H locs 0 0 (MQ below (xQi D cy xmb a S' v' s.heap.size) args s 0 0 (xA xmb a s.heap.size)) (F0 m 17 ls [.int y0]) := by
  have hx := hM.1
  have hb := hM.2.1
  refine lv_istore_n (lv' := [(2, .int y0), (0, .ref (a 0)), (1, .int x1)]) hx hb dX12_airOf_17 rfl hl (by decide) rfl (fun ls hl => ?_)
  refine lv_iconst (v := (0 : Int32)) hx hb dX12_airOf_18 (by decide) ?_
  refine lv_istore_n (lv' := [(3, .int (0 : Int32)), (2, .int y0), (0, .ref (a 0)), (1, .int x1)]) hx hb dX12_airOf_19 rfl hl (by decide) rfl (fun ls hl => ?_)
  exact wl_X12_airOf_20 hM hr hlk (fun t0 e => k0 t0 e) 5000 _ _ _ _ _ _ h hG (lv_sub hl [2, 3, 1, 0] rfl)
set_option maxHeartbeats 4000000 in
set_option maxRecDepth 100000 in
theorem w_X12_airOf_0 {x1 : Int32} (hM : xM p c cX12_airOf m s args RX12 4 D cy xmb a z) (hr : meth.sig.returnType = (some .int)) (hlk : meth.locks = false) {S' : xSt} {v' : Int32} {S : xSt} {q : (xSt × Int32)} (h : f_X12_airOf_0 x1 S = some q) (k0 : ∀ t0 : xSt × Int32, q = t0 → t0 = (S', v')) {H : Heap} {locs : List Loc} (hG : xG D cy xmb a S s H locs) {ls : Array Slot} (hl : lv_has ls 4 [(0, .ref (a 0)), (1, .int x1)]) : W p l e ({ frames := 4, cells := 0, slots := 0, locals := 88 } : Room) s m args below meth c H locs 0 0 (MQ below (xQi D cy xmb a S' v' s.heap.size) args s 0 0 (xA xmb a s.heap.size)) (F0 m 0 ls []) := by
  have hx := hM.1
  have hb := hM.2.1
  refine lv_aload_n hx hb dX12_airOf_0 rfl (lv_at hl 0 rfl) ?_
  refine x_gr (r := 27) hM hG xfl_X12_92 xmt_0 (by decide) rfl dX12_airOf_1 ?_
  refine lv_iload_n hx hb dX12_airOf_4 rfl (lv_at hl 1 rfl) ?_
  refine lv_iconst (v := (5 : Int32)) hx hb dX12_airOf_5 (by decide) ?_
  refine x_idiv hM h dX12_airOf_6 (fun v_1 h => ?_)
  refine x_iald hM hG xmt_27 h dX12_airOf_7 (fun v_2 h => ?_)
  refine lv_iconst (v := (1 : Int32)) hx hb dX12_airOf_8 (by decide) ?_
  refine x_icmp_ne (tgt := 16) hM h dX12_airOf_9 (by decide) (fun c_3 h => ?_) (fun c_3 h => ?_)
  · refine lv_iconst (v := (0 : Int32)) hx hb dX12_airOf_16 (by decide) ?_
    exact w_X12_airOf_17 hM hr hlk h (fun t0 e => k0 t0 e) hG (lv_sub hl [0, 1] rfl)
  · refine lv_iconst (v := (2 : Int32)) hx hb dX12_airOf_12 (by decide) ?_
    refine lv_goto (tgt := 17) hx hb dX12_airOf_13 (by decide) ?_
    exact w_X12_airOf_17 hM hr hlk h (fun t0 e => k0 t0 e) hG (lv_sub hl [0, 1] rfl)
set_option maxHeartbeats 4000000 in
set_option maxRecDepth 100000 in
theorem c_X12_airOf {l : Launch} {D : va_G} {cy : Nat → ClassId} {a z : Nat → Nat} (hI : xI xmb a) {S : xSt} {x1 : Int32} {S' : xSt} {v' : Int32} (hf : f_X12_airOf S x1 = some (S', v')) (sz : Nat) : Met l yX12_airOf (Cond.code yX12_airOf cX12_airOf 4 (some .int) :: xTB) ({ frames := 4, cells := 0, slots := 0, locals := 88 } : Room) (va_Pc [.ref (a 0), .int x1] (xPre D cy xmb a z S sz)) (xQi D cy xmb a S' v' sz) 0 0 (xA xmb a sz) := by
  refine Met.ofW (cc := cX12_airOf) (maxL := 4) (ret := (some .int)) (by decide) rfl ?_
  intro p e s m args below meth c s₁ B hml hv
  obtain ⟨rfl, hsz, hP, hK, hE⟩ := hv
  subst hsz
  have hl := lv_entry ([.ref (a 0), .int x1]) (n := 4) (Nat.le_of_ble_eq_true rfl)
  rw [lg_entry_eq]
  generalize (lg_sl ([.ref (a 0), .int x1]) ++ List.replicate (4 - (lg_sl ([.ref (a 0), .int x1])).length) Slot.unset).toArray = ls at hl ⊢
  have hl : lv_has ls 4 [(0, .ref (a 0)), (1, .int x1)] := hl
  exact w_X12_airOf_0 ⟨B.exec, B.bytes, hml, findClass_of_methodNamed B.named, fun w hw => atoms_spec (ws := Cond.code yX12_airOf cX12_airOf 4 (some .int) :: xTB) B.pre w (List.mem_cons_of_mem _ hw), hK, hI, hE⟩ B.returns B.notSynchronized hf (fun t0 e => e.symm) ⟨hP, va_S.rf⟩ (lv_sub hl [0, 1] rfl)
end XWwalkM1
