/-! part c5: the law's Stack (made by wip/p45/gen_c5.py) -/
def isS (cy : Nat → ClassId) (b L : Nat) (xs : Nat → Int32) (z : Nat) (w : va_W) : Prop := ∃ (q1 q2 q3 q4 q5 q6 q7 : Nat) (fh fd fs : Nat → Int32), (∀ j : Nat, j < 6 → fh j = ki (hgS L xs j)) ∧ (∀ j : Nat, j < 30 → fd j = ki (nuS L xs j 0)) ∧ (∀ j : Nat, j < 30 → fs j = ki (nuS L xs j 3)) ∧ w = [(z, .inr (12, [.ref b, .ref q1, .ref q2, .ref q3, .ref q4, .ref q5, .ref q6, .ref q7])), (q1, .inl (cy 0, 6, .inl fh)), (q2, .inl (cy 0, 30, .inl fd)), (q4, .inl (cy 0, 30, .inl fs))]
def nS (U : State) : Prop := va_Nw (.methodLinkNest RX12 34 yL_cell RL) U ∧ va_Nw (.methodLinkNest RX12 40 yL_number RL) U
def jPs (D : va_G) (cy : Nat → ClassId) (mi zE zc : Nat) (ad : Nat → Nat) (b L : Nat) (xs : Nat → Int32) (ws : va_W) (sz : Nat) (U : State) : Prop := jP D cy mi zE zc ad ws sz U ∧ scP b L xs U ∧ ¬ va_A ws sz b ∧ nS U
theorem nS.warm {s U : State} (h : nS s) (hW : s.WarmedH U.vm) : nS U := ⟨va_Nw.warmM hW h.1, va_Nw.warmM hW h.2⟩
theorem nS.same {s U : State} (h : nS s) (hvm : s.vm = U.vm) : nS U := ⟨va_Nw.same rfl hvm h.1, va_Nw.same rfl hvm h.2⟩
theorem jPs_bl {D : va_G} {cy : Nat → ClassId} {mi zE zc : Nat} {ad : Nat → Nat} {b L : Nat} {xs : Nat → Int32} {ws : va_W} {sz : Nat} {av : List Value} : FrameBlind (va_Pc av (jPs D cy mi zE zc ad b L xs ws sz)) := by
  intro b U g mk q
  obtain ⟨q0, ⟨q1, qP, qK, qD, qN, qZ⟩, ⟨q2, q3⟩, q4, q5⟩ := q
  exact ⟨q0, ⟨q1, qP, va_K.moved (u := U) (U := U.calling g mk b) (Vm.Alike.refl U.vm) qK, qD, qN.same (U := U.calling g mk b) rfl, qZ.to (U := U.calling g mk b) (Vm.Alike.refl U.vm) (fun _ _ _ => rfl) (fun _ h => h)⟩, ⟨q2, va_X.moved (u := U) (U := U.calling g mk b) (Vm.Alike.refl U.vm) q3⟩, q4, q5.same (U := U.calling g mk b) rfl⟩
theorem jPs_to {D : va_G} {cy : Nat → ClassId} {mi zE zc : Nat} {ad : Nat → Nat} {b L : Nat} {xs : Nat → Int32} {A : Nat → Prop} {s U : State} {H : Heap} {locs : List Loc} {wr wc : va_W} (hP : va_P D vwCl (wr ++ wc) H) (hD : va_D A (wr ++ wc)) (hS : va_S A s.heap H locs) (hA : ∀ q, s.heap.size ≤ q → A q) (hK : va_K D vwCl (xtyL cy) s) (hN : jN mi s) (hZ : jZ zE zc ad A s s.heap) (hX : va_X b L xs s s.heap) (hbl : b < s.heap.size) (hbA : ¬ A b) (hNs : nS s) (hU : U.heap = H) (hW : s.WarmedH U.vm) : jPs D cy mi zE zc ad b L xs wc H.size U :=
  ⟨jP_to hP hD hS hA hK hN hZ hU hW, (scP_to hX hbl hbA hS hU hW).2, fun h => hbA (x_free hD hS hA b h), hNs.warm hW⟩
theorem upd_to {f : Nat → Int32} {g : Nat → Int} {i : Nat} (h : ∀ j : Nat, j < i → f j = ki (g j)) {v : Int} (hv : v = g i) : ∀ j : Nat, j < i + 1 → upd f ((i : Int)).toNat (ki v) j = ki (g j) := by
  intro j hj
  unfold upd
  by_cases e : j = i
  · subst e; rw [if_pos (by omega), hv]
  · rw [if_neg (by omega)]; exact h j (by omega)
section C5
variable {l : Launch} {D : va_G} {cy : Nat → ClassId} {mi zE zc : Nat} {ad : Nat → Nat} {b L : Nat} {xs : Nat → Int32}
section SI
variable {p : Program} {e : Env} {R : Room} {s : State} {m : MethodId} {args : Array Value} {below : List Frame} {meth : Method} {c : Code} {Q : State → Prop} {A : Nat → Prop}
variable {z q7 q15 q23 q31 q39 q47 q55 : Nat}
set_option maxHeartbeats 2000000 in
set_option maxRecDepth 20000 in
theorem SI_L1 (hx : p.tables.exec = Jvm.exec) (hb : c.code = cX12_init) (hml : c.maxLocals = 3) (hown : s.vm.findClass RX12 = some m.cls) (hts : ∀ w ∈ xTB, w.before args s = true) (hK : va_K D vwCl (xtyL cy) s) (hN : jN mi s) (hZ : jZ zE zc ad A s s.heap) (hX : va_X b L xs s s.heap) (hbl : b < s.heap.size) (hbA : ¬ A b) (hNs : nS s) (hA : ∀ q, s.heap.size ≤ q → A q) (hL : L ≤ 1000) (hR : 4 ≤ R.frames ∧ 140 ≤ R.locals ∧ 7 ≤ R.cells ∧ 162 ≤ R.slots) (kk : ∀ (fh fc : Nat → Int32) (hh : ∀ j : Nat, j < 6 → fh j = ki (hgS L xs j)) (H : Heap) (locs : List Loc) (ls : Array Slot), lv_has ls 3 [(2, .int (ki (6 : Int))), (0, .ref z), (1, .ref b)] → va_P D vwCl [(z, .inr (12, [.ref b, .ref q7, .ref q15, .ref q23, .ref q31, .ref q39, .ref q47, .ref q55])), (q7, .inl (cy 0, 6, .inl fh)), (q15, .inl (cy 0, 30, .inl (fun _ => (0 : Int32)))), (q23, .inl (cy 0, 30, .inl (fun _ => (0 : Int32)))), (q31, .inl (cy 0, 30, .inl (fun _ => (0 : Int32)))), (q39, .inl (cy 0, 6, .inl fc)), (q47, .inl (cy 0, 30, .inl (fun _ => (0 : Int32)))), (q55, .inl (cy 0, 30, .inl (fun _ => (0 : Int32))))] H → va_D A [(z, .inr (12, [.ref b, .ref q7, .ref q15, .ref q23, .ref q31, .ref q39, .ref q47, .ref q55])), (q7, .inl (cy 0, 6, .inl fh)), (q15, .inl (cy 0, 30, .inl (fun _ => (0 : Int32)))), (q23, .inl (cy 0, 30, .inl (fun _ => (0 : Int32)))), (q31, .inl (cy 0, 30, .inl (fun _ => (0 : Int32)))), (q39, .inl (cy 0, 6, .inl fc)), (q47, .inl (cy 0, 30, .inl (fun _ => (0 : Int32)))), (q55, .inl (cy 0, 30, .inl (fun _ => (0 : Int32))))] → va_S A s.heap H locs → W p l e R s m args below meth c H locs 7 162 Q (F0 m 127 ls [])) : ∀ (d i : Nat), i + d = 6 → ∀ (fh fc : Nat → Int32) (hh : ∀ j : Nat, j < i → fh j = ki (hgS L xs j)) (H : Heap) (locs : List Loc) (ls : Array Slot), lv_has ls 3 [(2, .int (ki (i : Int))), (0, .ref z), (1, .ref b)] → va_P D vwCl [(z, .inr (12, [.ref b, .ref q7, .ref q15, .ref q23, .ref q31, .ref q39, .ref q47, .ref q55])), (q7, .inl (cy 0, 6, .inl fh)), (q15, .inl (cy 0, 30, .inl (fun _ => (0 : Int32)))), (q23, .inl (cy 0, 30, .inl (fun _ => (0 : Int32)))), (q31, .inl (cy 0, 30, .inl (fun _ => (0 : Int32)))), (q39, .inl (cy 0, 6, .inl fc)), (q47, .inl (cy 0, 30, .inl (fun _ => (0 : Int32)))), (q55, .inl (cy 0, 30, .inl (fun _ => (0 : Int32))))] H → va_D A [(z, .inr (12, [.ref b, .ref q7, .ref q15, .ref q23, .ref q31, .ref q39, .ref q47, .ref q55])), (q7, .inl (cy 0, 6, .inl fh)), (q15, .inl (cy 0, 30, .inl (fun _ => (0 : Int32)))), (q23, .inl (cy 0, 30, .inl (fun _ => (0 : Int32)))), (q31, .inl (cy 0, 30, .inl (fun _ => (0 : Int32)))), (q39, .inl (cy 0, 6, .inl fc)), (q47, .inl (cy 0, 30, .inl (fun _ => (0 : Int32)))), (q55, .inl (cy 0, 30, .inl (fun _ => (0 : Int32))))] → va_S A s.heap H locs → W p l e R s m args below meth c H locs 7 162 Q (F0 m 67 ls []) := by
  intro d
  induction d with
  | zero =>
    intro i hi fh fc hh H locs ls hl hP hD hS
    have hi : i = 6 := by omega
    subst hi
    refine lv_iload_n hx hb dX12_init_67 rfl (lv_at hl 0 rfl) ?_
    refine lv_bipush (v := ki 6) hx hb dX12_init_68 rfl ?_
    refine kv_icmp_ge_t (tgt := 127) hx hb (by omega) (by omega) (by omega) (by omega) (by omega) dX12_init_70 (by decide) ?_
    exact kk fh fc hh H _ ls hl hP hD hS
  | succ d ih =>
    intro i hi fh fc hh H locs ls hl hP hD hS
    refine lv_iload_n hx hb dX12_init_67 rfl (lv_at hl 0 rfl) ?_
    refine lv_bipush (v := ki 6) hx hb dX12_init_68 rfl ?_
    refine kv_icmp_ge_f (tgt := 127) hx hb (by omega) (by omega) (by omega) (by omega) (by omega) dX12_init_70 (by decide) ?_
    refine lv_aload_n hx hb dX12_init_73 rfl (lv_at hl 1 rfl) ?_
    refine va_get (D := D) (ci := 12) (v := .ref q7) (C := RX12) (T := TX12) (N := 8) hx hb hts xin_X12 hown hK hP 0 rfl rfl 1 (by decide) (hts _ (xw_mem 803 (by decide +kernel) rfl)) (fun _ h9 => h9) rfl dX12_init_74 ?_
    refine lv_iload_n hx hb dX12_init_77 rfl (lv_at hl 0 rfl) ?_
    refine lv_aload_n hx hb dX12_init_78 rfl (lv_at hl 2 rfl) ?_
    refine lv_iconst (v := ki 0) hx hb dX12_init_79 rfl ?_
    have hPc : va_P D vwCl (([(z, .inr (12, [.ref b, .ref q7, .ref q15, .ref q23, .ref q31, .ref q39, .ref q47, .ref q55])), (q7, .inl (cy 0, 6, .inl fh)), (q15, .inl (cy 0, 30, .inl (fun _ => (0 : Int32)))), (q23, .inl (cy 0, 30, .inl (fun _ => (0 : Int32)))), (q31, .inl (cy 0, 30, .inl (fun _ => (0 : Int32)))), (q39, .inl (cy 0, 6, .inl fc)), (q47, .inl (cy 0, 30, .inl (fun _ => (0 : Int32)))), (q55, .inl (cy 0, 30, .inl (fun _ => (0 : Int32))))] : va_W) ++ []) _ := hP
    have hDc : va_D A (([(z, .inr (12, [.ref b, .ref q7, .ref q15, .ref q23, .ref q31, .ref q39, .ref q47, .ref q55])), (q7, .inl (cy 0, 6, .inl fh)), (q15, .inl (cy 0, 30, .inl (fun _ => (0 : Int32)))), (q23, .inl (cy 0, 30, .inl (fun _ => (0 : Int32)))), (q31, .inl (cy 0, 30, .inl (fun _ => (0 : Int32)))), (q39, .inl (cy 0, 6, .inl fc)), (q47, .inl (cy 0, 30, .inl (fun _ => (0 : Int32)))), (q55, .inl (cy 0, 30, .inl (fun _ => (0 : Int32))))] : va_W) ++ []) := hD
    refine kc_Ni (n := 2) hx hb hml hown hts ⟨xw_mem 795 (by decide +kernel) rfl, xw_mem 29 (by decide +kernel) rfl, hNs.1, ⟨by decide, by decide, by decide +kernel⟩⟩ (xw_mem 794 (by decide +kernel) rfl) hPc hDc hS hA [.ref b, .int (ki 0)] (rest := [.int (ki (i : Int)), .ref q7]) _ _ (c_L_cell (i := 0) hL (by omega) (by omega) _) scP_bl (fun U hU hW => scP_to hX hbl hbA hS hU hW) ⟨(by omega), (by omega)⟩ (by omega) (by omega) rfl hl.1 rfl (Nat.le_of_ble_eq_true (rfl)) dX12_init_80 (fun r u t H locs ht hw hB hz hJ hS => ?_)
    subst hw
    obtain ⟨hP, hD⟩ := hJ [] (fun k q h => by simp at h) ⟨fun i j p q h => by simp at h, fun k q h => by simp at h⟩
    have hP : va_P D vwCl [(z, .inr (12, [.ref b, .ref q7, .ref q15, .ref q23, .ref q31, .ref q39, .ref q47, .ref q55])), (q7, .inl (cy 0, 6, .inl fh)), (q15, .inl (cy 0, 30, .inl (fun _ => (0 : Int32)))), (q23, .inl (cy 0, 30, .inl (fun _ => (0 : Int32)))), (q31, .inl (cy 0, 30, .inl (fun _ => (0 : Int32)))), (q39, .inl (cy 0, 6, .inl fc)), (q47, .inl (cy 0, 30, .inl (fun _ => (0 : Int32)))), (q55, .inl (cy 0, 30, .inl (fun _ => (0 : Int32))))] H := hP
    have hD : va_D A [(z, .inr (12, [.ref b, .ref q7, .ref q15, .ref q23, .ref q31, .ref q39, .ref q47, .ref q55])), (q7, .inl (cy 0, 6, .inl fh)), (q15, .inl (cy 0, 30, .inl (fun _ => (0 : Int32)))), (q23, .inl (cy 0, 30, .inl (fun _ => (0 : Int32)))), (q31, .inl (cy 0, 30, .inl (fun _ => (0 : Int32)))), (q39, .inl (cy 0, 6, .inl fc)), (q47, .inl (cy 0, 30, .inl (fun _ => (0 : Int32)))), (q55, .inl (cy 0, 30, .inl (fun _ => (0 : Int32))))] := hD
    refine lv_iconst (v := ki 3) hx hb dX12_init_83 rfl ?_
    refine lv_iload_n hx hb dX12_init_84 rfl (lv_at hl 0 rfl) ?_
    refine kv_mul (r := 3 * (i : Int)) hx hb rfl dX12_init_85 ?_
    have hc := ceS_b (L := L) (xs := xs) (i := 0) (by omega) (by omega)
    have hdv := dv_b hc.1 (3 * (i : Int)).toNat
    refine kv_shr (r := (ceS L xs 0) / ((2 ^ ((3 * (i : Int)).toNat) : Nat) : Int)) hx hb ((3 * (i : Int)).toNat) (by omega) (by omega) (by omega) (by omega) rfl dX12_init_86 ?_
    refine lv_bipush (v := ki 7) hx hb dX12_init_87 rfl ?_
    refine kv_and (r := ((ceS L xs 0) / ((2 ^ ((3 * (i : Int)).toNat) : Nat) : Int)) % 8) hx hb 3 rfl (by omega) (by omega) (by omega) rfl dX12_init_89 ?_
    refine lv_bipush (v := ki 6) hx hb dX12_init_90 rfl ?_
    refine kv_rem (r := hgS L xs (i : Int)) hx hb (by omega) (by omega) (by omega) (by omega) rfl dX12_init_92 ?_
    refine kv_ast hx hb hK hP hD hS 1 0 rfl rfl (by omega) (by omega) (by omega) dX12_init_93 (fun H locs hP hD hS => ?_)
    have hP : va_P D vwCl [(z, .inr (12, [.ref b, .ref q7, .ref q15, .ref q23, .ref q31, .ref q39, .ref q47, .ref q55])), (q7, .inl (cy 0, 6, .inl (upd fh ((i : Int)).toNat (ki (hgS L xs (i : Int)))))), (q15, .inl (cy 0, 30, .inl (fun _ => (0 : Int32)))), (q23, .inl (cy 0, 30, .inl (fun _ => (0 : Int32)))), (q31, .inl (cy 0, 30, .inl (fun _ => (0 : Int32)))), (q39, .inl (cy 0, 6, .inl fc)), (q47, .inl (cy 0, 30, .inl (fun _ => (0 : Int32)))), (q55, .inl (cy 0, 30, .inl (fun _ => (0 : Int32))))] H := hP
    have hD : va_D A [(z, .inr (12, [.ref b, .ref q7, .ref q15, .ref q23, .ref q31, .ref q39, .ref q47, .ref q55])), (q7, .inl (cy 0, 6, .inl (upd fh ((i : Int)).toNat (ki (hgS L xs (i : Int)))))), (q15, .inl (cy 0, 30, .inl (fun _ => (0 : Int32)))), (q23, .inl (cy 0, 30, .inl (fun _ => (0 : Int32)))), (q31, .inl (cy 0, 30, .inl (fun _ => (0 : Int32)))), (q39, .inl (cy 0, 6, .inl fc)), (q47, .inl (cy 0, 30, .inl (fun _ => (0 : Int32)))), (q55, .inl (cy 0, 30, .inl (fun _ => (0 : Int32))))] := hD
    refine lv_aload_n hx hb dX12_init_94 rfl (lv_at hl 1 rfl) ?_
    refine va_get (D := D) (ci := 12) (v := .ref q39) (C := RX12) (T := TX12) (N := 8) hx hb hts xin_X12 hown hK hP 0 rfl rfl 5 (by decide) (hts _ (xw_mem 810 (by decide +kernel) rfl)) (fun _ h9 => h9) rfl dX12_init_95 ?_
    refine lv_iload_n hx hb dX12_init_98 rfl (lv_at hl 0 rfl) ?_
    refine lv_aload_n hx hb dX12_init_99 rfl (lv_at hl 2 rfl) ?_
    refine lv_bipush (v := ki 13) hx hb dX12_init_100 rfl ?_
    have hPc : va_P D vwCl (([(z, .inr (12, [.ref b, .ref q7, .ref q15, .ref q23, .ref q31, .ref q39, .ref q47, .ref q55])), (q7, .inl (cy 0, 6, .inl (upd fh ((i : Int)).toNat (ki (hgS L xs (i : Int)))))), (q15, .inl (cy 0, 30, .inl (fun _ => (0 : Int32)))), (q23, .inl (cy 0, 30, .inl (fun _ => (0 : Int32)))), (q31, .inl (cy 0, 30, .inl (fun _ => (0 : Int32)))), (q39, .inl (cy 0, 6, .inl fc)), (q47, .inl (cy 0, 30, .inl (fun _ => (0 : Int32)))), (q55, .inl (cy 0, 30, .inl (fun _ => (0 : Int32))))] : va_W) ++ []) _ := hP
    have hDc : va_D A (([(z, .inr (12, [.ref b, .ref q7, .ref q15, .ref q23, .ref q31, .ref q39, .ref q47, .ref q55])), (q7, .inl (cy 0, 6, .inl (upd fh ((i : Int)).toNat (ki (hgS L xs (i : Int)))))), (q15, .inl (cy 0, 30, .inl (fun _ => (0 : Int32)))), (q23, .inl (cy 0, 30, .inl (fun _ => (0 : Int32)))), (q31, .inl (cy 0, 30, .inl (fun _ => (0 : Int32)))), (q39, .inl (cy 0, 6, .inl fc)), (q47, .inl (cy 0, 30, .inl (fun _ => (0 : Int32)))), (q55, .inl (cy 0, 30, .inl (fun _ => (0 : Int32))))] : va_W) ++ []) := hD
    refine kc_Ni (n := 2) hx hb hml hown hts ⟨xw_mem 795 (by decide +kernel) rfl, xw_mem 29 (by decide +kernel) rfl, hNs.1, ⟨by decide, by decide, by decide +kernel⟩⟩ (xw_mem 794 (by decide +kernel) rfl) hPc hDc hS hA [.ref b, .int (ki 13)] (rest := [.int (ki (i : Int)), .ref q39]) _ _ (c_L_cell (i := 13) hL (by omega) (by omega) _) scP_bl (fun U hU hW => scP_to hX hbl hbA hS hU hW) ⟨(by omega), (by omega)⟩ (by omega) (by omega) rfl hl.1 rfl (Nat.le_of_ble_eq_true (rfl)) dX12_init_102 (fun r u t H locs ht hw hB hz hJ hS => ?_)
    subst hw
    obtain ⟨hP, hD⟩ := hJ [] (fun k q h => by simp at h) ⟨fun i j p q h => by simp at h, fun k q h => by simp at h⟩
    have hP : va_P D vwCl [(z, .inr (12, [.ref b, .ref q7, .ref q15, .ref q23, .ref q31, .ref q39, .ref q47, .ref q55])), (q7, .inl (cy 0, 6, .inl (upd fh ((i : Int)).toNat (ki (hgS L xs (i : Int)))))), (q15, .inl (cy 0, 30, .inl (fun _ => (0 : Int32)))), (q23, .inl (cy 0, 30, .inl (fun _ => (0 : Int32)))), (q31, .inl (cy 0, 30, .inl (fun _ => (0 : Int32)))), (q39, .inl (cy 0, 6, .inl fc)), (q47, .inl (cy 0, 30, .inl (fun _ => (0 : Int32)))), (q55, .inl (cy 0, 30, .inl (fun _ => (0 : Int32))))] H := hP
    have hD : va_D A [(z, .inr (12, [.ref b, .ref q7, .ref q15, .ref q23, .ref q31, .ref q39, .ref q47, .ref q55])), (q7, .inl (cy 0, 6, .inl (upd fh ((i : Int)).toNat (ki (hgS L xs (i : Int)))))), (q15, .inl (cy 0, 30, .inl (fun _ => (0 : Int32)))), (q23, .inl (cy 0, 30, .inl (fun _ => (0 : Int32)))), (q31, .inl (cy 0, 30, .inl (fun _ => (0 : Int32)))), (q39, .inl (cy 0, 6, .inl fc)), (q47, .inl (cy 0, 30, .inl (fun _ => (0 : Int32)))), (q55, .inl (cy 0, 30, .inl (fun _ => (0 : Int32))))] := hD
    refine lv_iconst (v := ki 2) hx hb dX12_init_105 rfl ?_
    refine lv_iload_n hx hb dX12_init_106 rfl (lv_at hl 0 rfl) ?_
    refine kv_mul (r := 2 * (i : Int)) hx hb rfl dX12_init_107 ?_
    have hc := ceS_b (L := L) (xs := xs) (i := 13) (by omega) (by omega)
    have hdv := dv_b hc.1 (2 * (i : Int)).toNat
    refine kv_shr (r := (ceS L xs 13) / ((2 ^ ((2 * (i : Int)).toNat) : Nat) : Int)) hx hb ((2 * (i : Int)).toNat) (by omega) (by omega) (by omega) (by omega) rfl dX12_init_108 ?_
    refine lv_iconst (v := ki 3) hx hb dX12_init_109 rfl ?_
    refine kv_and (r := ((ceS L xs 13) / ((2 ^ ((2 * (i : Int)).toNat) : Nat) : Int)) % 4) hx hb 2 rfl (by omega) (by omega) (by omega) rfl dX12_init_110 ?_
    refine lv_iconst (v := ki 3) hx hb dX12_init_111 rfl ?_
    refine kv_icmp_ne (tgt := 119) hx hb (by omega) (by omega) (by omega) (by omega) dX12_init_112 (by decide) (fun h9 => ?_) (fun h9 => ?_)
    · refine lv_iconst (v := ki 0) hx hb dX12_init_119 rfl ?_
      refine kv_ast hx hb hK hP hD hS 5 0 rfl rfl (by omega) (by omega) (by omega) dX12_init_120 (fun H locs hP hD hS => ?_)
      have hP : va_P D vwCl [(z, .inr (12, [.ref b, .ref q7, .ref q15, .ref q23, .ref q31, .ref q39, .ref q47, .ref q55])), (q7, .inl (cy 0, 6, .inl (upd fh ((i : Int)).toNat (ki (hgS L xs (i : Int)))))), (q15, .inl (cy 0, 30, .inl (fun _ => (0 : Int32)))), (q23, .inl (cy 0, 30, .inl (fun _ => (0 : Int32)))), (q31, .inl (cy 0, 30, .inl (fun _ => (0 : Int32)))), (q39, .inl (cy 0, 6, .inl (upd fc ((i : Int)).toNat (ki 0)))), (q47, .inl (cy 0, 30, .inl (fun _ => (0 : Int32)))), (q55, .inl (cy 0, 30, .inl (fun _ => (0 : Int32))))] H := hP
      have hD : va_D A [(z, .inr (12, [.ref b, .ref q7, .ref q15, .ref q23, .ref q31, .ref q39, .ref q47, .ref q55])), (q7, .inl (cy 0, 6, .inl (upd fh ((i : Int)).toNat (ki (hgS L xs (i : Int)))))), (q15, .inl (cy 0, 30, .inl (fun _ => (0 : Int32)))), (q23, .inl (cy 0, 30, .inl (fun _ => (0 : Int32)))), (q31, .inl (cy 0, 30, .inl (fun _ => (0 : Int32)))), (q39, .inl (cy 0, 6, .inl (upd fc ((i : Int)).toNat (ki 0)))), (q47, .inl (cy 0, 30, .inl (fun _ => (0 : Int32)))), (q55, .inl (cy 0, 30, .inl (fun _ => (0 : Int32))))] := hD
      refine lv_iinc (v := ki ((i + 1 : Nat) : Int)) (lv' := [(2, .int (ki ((i + 1 : Nat) : Int))), (0, .ref z), (1, .ref b)]) hx hb dX12_init_121 hl (k := 0) rfl ((ki_add _ _).trans (congrArg ki (by omega))) (by decide) rfl (fun ls hl => ?_)
      refine lv_goto (tgt := 67) hx hb dX12_init_124 (by decide) ?_
      exact ih (i + 1) (by omega) _ _ (upd_to (g := fun j => hgS L xs j) hh rfl) H _ ls (lv_sub hl [0, 1, 2] rfl) hP hD hS
    · refine lv_iconst (v := ki 1) hx hb dX12_init_115 rfl ?_
      refine lv_goto (tgt := 120) hx hb dX12_init_116 (by decide) ?_
      refine kv_ast hx hb hK hP hD hS 5 0 rfl rfl (by omega) (by omega) (by omega) dX12_init_120 (fun H locs hP hD hS => ?_)
      have hP : va_P D vwCl [(z, .inr (12, [.ref b, .ref q7, .ref q15, .ref q23, .ref q31, .ref q39, .ref q47, .ref q55])), (q7, .inl (cy 0, 6, .inl (upd fh ((i : Int)).toNat (ki (hgS L xs (i : Int)))))), (q15, .inl (cy 0, 30, .inl (fun _ => (0 : Int32)))), (q23, .inl (cy 0, 30, .inl (fun _ => (0 : Int32)))), (q31, .inl (cy 0, 30, .inl (fun _ => (0 : Int32)))), (q39, .inl (cy 0, 6, .inl (upd fc ((i : Int)).toNat (ki 1)))), (q47, .inl (cy 0, 30, .inl (fun _ => (0 : Int32)))), (q55, .inl (cy 0, 30, .inl (fun _ => (0 : Int32))))] H := hP
      have hD : va_D A [(z, .inr (12, [.ref b, .ref q7, .ref q15, .ref q23, .ref q31, .ref q39, .ref q47, .ref q55])), (q7, .inl (cy 0, 6, .inl (upd fh ((i : Int)).toNat (ki (hgS L xs (i : Int)))))), (q15, .inl (cy 0, 30, .inl (fun _ => (0 : Int32)))), (q23, .inl (cy 0, 30, .inl (fun _ => (0 : Int32)))), (q31, .inl (cy 0, 30, .inl (fun _ => (0 : Int32)))), (q39, .inl (cy 0, 6, .inl (upd fc ((i : Int)).toNat (ki 1)))), (q47, .inl (cy 0, 30, .inl (fun _ => (0 : Int32)))), (q55, .inl (cy 0, 30, .inl (fun _ => (0 : Int32))))] := hD
      refine lv_iinc (v := ki ((i + 1 : Nat) : Int)) (lv' := [(2, .int (ki ((i + 1 : Nat) : Int))), (0, .ref z), (1, .ref b)]) hx hb dX12_init_121 hl (k := 0) rfl ((ki_add _ _).trans (congrArg ki (by omega))) (by decide) rfl (fun ls hl => ?_)
      refine lv_goto (tgt := 67) hx hb dX12_init_124 (by decide) ?_
      exact ih (i + 1) (by omega) _ _ (upd_to (g := fun j => hgS L xs j) hh rfl) H _ ls (lv_sub hl [0, 1, 2] rfl) hP hD hS
set_option maxHeartbeats 2000000 in
set_option maxRecDepth 20000 in
theorem SI_L2 (hx : p.tables.exec = Jvm.exec) (hb : c.code = cX12_init) (hml : c.maxLocals = 3) (hown : s.vm.findClass RX12 = some m.cls) (hts : ∀ w ∈ xTB, w.before args s = true) (hK : va_K D vwCl (xtyL cy) s) (hN : jN mi s) (hZ : jZ zE zc ad A s s.heap) (hX : va_X b L xs s s.heap) (hbl : b < s.heap.size) (hbA : ¬ A b) (hNs : nS s) (hA : ∀ q, s.heap.size ≤ q → A q) (hL : L ≤ 1000) (hR : 4 ≤ R.frames ∧ 140 ≤ R.locals ∧ 7 ≤ R.cells ∧ 162 ≤ R.slots) (kk : ∀ (fh fc fd g1 g2 fs g3 : Nat → Int32) (hh : ∀ j : Nat, j < 6 → fh j = ki (hgS L xs j)) (hd9 : ∀ j : Nat, j < 30 → fd j = ki (nuS L xs j 0)) (hs9 : ∀ j : Nat, j < 30 → fs j = ki (nuS L xs j 3)) (H : Heap) (locs : List Loc) (ls : Array Slot), lv_has ls 3 [(2, .int (ki (30 : Int))), (0, .ref z), (1, .ref b)] → va_P D vwCl [(z, .inr (12, [.ref b, .ref q7, .ref q15, .ref q23, .ref q31, .ref q39, .ref q47, .ref q55])), (q7, .inl (cy 0, 6, .inl fh)), (q15, .inl (cy 0, 30, .inl fd)), (q23, .inl (cy 0, 30, .inl g2)), (q31, .inl (cy 0, 30, .inl fs)), (q39, .inl (cy 0, 6, .inl fc)), (q47, .inl (cy 0, 30, .inl g3)), (q55, .inl (cy 0, 30, .inl g1))] H → va_D A [(z, .inr (12, [.ref b, .ref q7, .ref q15, .ref q23, .ref q31, .ref q39, .ref q47, .ref q55])), (q7, .inl (cy 0, 6, .inl fh)), (q15, .inl (cy 0, 30, .inl fd)), (q23, .inl (cy 0, 30, .inl g2)), (q31, .inl (cy 0, 30, .inl fs)), (q39, .inl (cy 0, 6, .inl fc)), (q47, .inl (cy 0, 30, .inl g3)), (q55, .inl (cy 0, 30, .inl g1))] → va_S A s.heap H locs → W p l e R s m args below meth c H locs 7 162 Q (F0 m 201 ls [])) : ∀ (d i : Nat), i + d = 30 → ∀ (fh fc fd g1 g2 fs g3 : Nat → Int32) (hh : ∀ j : Nat, j < 6 → fh j = ki (hgS L xs j)) (hd9 : ∀ j : Nat, j < i → fd j = ki (nuS L xs j 0)) (hs9 : ∀ j : Nat, j < i → fs j = ki (nuS L xs j 3)) (H : Heap) (locs : List Loc) (ls : Array Slot), lv_has ls 3 [(2, .int (ki (i : Int))), (0, .ref z), (1, .ref b)] → va_P D vwCl [(z, .inr (12, [.ref b, .ref q7, .ref q15, .ref q23, .ref q31, .ref q39, .ref q47, .ref q55])), (q7, .inl (cy 0, 6, .inl fh)), (q15, .inl (cy 0, 30, .inl fd)), (q23, .inl (cy 0, 30, .inl g2)), (q31, .inl (cy 0, 30, .inl fs)), (q39, .inl (cy 0, 6, .inl fc)), (q47, .inl (cy 0, 30, .inl g3)), (q55, .inl (cy 0, 30, .inl g1))] H → va_D A [(z, .inr (12, [.ref b, .ref q7, .ref q15, .ref q23, .ref q31, .ref q39, .ref q47, .ref q55])), (q7, .inl (cy 0, 6, .inl fh)), (q15, .inl (cy 0, 30, .inl fd)), (q23, .inl (cy 0, 30, .inl g2)), (q31, .inl (cy 0, 30, .inl fs)), (q39, .inl (cy 0, 6, .inl fc)), (q47, .inl (cy 0, 30, .inl g3)), (q55, .inl (cy 0, 30, .inl g1))] → va_S A s.heap H locs → W p l e R s m args below meth c H locs 7 162 Q (F0 m 129 ls []) := by
  intro d
  induction d with
  | zero =>
    intro i hi fh fc fd g1 g2 fs g3 hh hd9 hs9 H locs ls hl hP hD hS
    have hi : i = 30 := by omega
    subst hi
    refine lv_iload_n hx hb dX12_init_129 rfl (lv_at hl 0 rfl) ?_
    refine lv_bipush (v := ki 30) hx hb dX12_init_130 rfl ?_
    refine kv_icmp_ge_t (tgt := 201) hx hb (by omega) (by omega) (by omega) (by omega) (by omega) dX12_init_132 (by decide) ?_
    exact kk fh fc fd g1 g2 fs g3 hh hd9 hs9 H _ ls hl hP hD hS
  | succ d ih =>
    intro i hi fh fc fd g1 g2 fs g3 hh hd9 hs9 H locs ls hl hP hD hS
    refine lv_iload_n hx hb dX12_init_129 rfl (lv_at hl 0 rfl) ?_
    refine lv_bipush (v := ki 30) hx hb dX12_init_130 rfl ?_
    refine kv_icmp_ge_f (tgt := 201) hx hb (by omega) (by omega) (by omega) (by omega) (by omega) dX12_init_132 (by decide) ?_
    refine lv_aload_n hx hb dX12_init_135 rfl (lv_at hl 1 rfl) ?_
    refine va_get (D := D) (ci := 12) (v := .ref q15) (C := RX12) (T := TX12) (N := 8) hx hb hts xin_X12 hown hK hP 0 rfl rfl 2 (by decide) (hts _ (xw_mem 805 (by decide +kernel) rfl)) (fun _ h9 => h9) rfl dX12_init_136 ?_
    refine lv_iload_n hx hb dX12_init_139 rfl (lv_at hl 0 rfl) ?_
    refine lv_aload_n hx hb dX12_init_140 rfl (lv_at hl 2 rfl) ?_
    refine lv_iload_n hx hb dX12_init_141 rfl (lv_at hl 0 rfl) ?_
    refine lv_iconst (v := ki 0) hx hb dX12_init_142 rfl ?_
    have hPc : va_P D vwCl (([(z, .inr (12, [.ref b, .ref q7, .ref q15, .ref q23, .ref q31, .ref q39, .ref q47, .ref q55])), (q7, .inl (cy 0, 6, .inl fh)), (q15, .inl (cy 0, 30, .inl fd)), (q23, .inl (cy 0, 30, .inl g2)), (q31, .inl (cy 0, 30, .inl fs)), (q39, .inl (cy 0, 6, .inl fc)), (q47, .inl (cy 0, 30, .inl g3)), (q55, .inl (cy 0, 30, .inl g1))] : va_W) ++ []) _ := hP
    have hDc : va_D A (([(z, .inr (12, [.ref b, .ref q7, .ref q15, .ref q23, .ref q31, .ref q39, .ref q47, .ref q55])), (q7, .inl (cy 0, 6, .inl fh)), (q15, .inl (cy 0, 30, .inl fd)), (q23, .inl (cy 0, 30, .inl g2)), (q31, .inl (cy 0, 30, .inl fs)), (q39, .inl (cy 0, 6, .inl fc)), (q47, .inl (cy 0, 30, .inl g3)), (q55, .inl (cy 0, 30, .inl g1))] : va_W) ++ []) := hD
    refine kc_Ni (n := 3) hx hb hml hown hts ⟨xw_mem 799 (by decide +kernel) rfl, xw_mem 29 (by decide +kernel) rfl, hNs.2, ⟨by decide, by decide, by decide +kernel⟩⟩ (xw_mem 798 (by decide +kernel) rfl) hPc hDc hS hA [.ref b, .int (ki (i : Int)), .int (ki 0)] (rest := [.int (ki (i : Int)), .ref q15]) _ _ (c_L_number (i := (i : Int)) (k := 0) hL (by omega) (by omega) (by omega) (by omega) _) scP_bl (fun U hU hW => scP_to hX hbl hbA hS hU hW) ⟨(by omega), (by omega)⟩ (by omega) (by omega) rfl hl.1 rfl (Nat.le_of_ble_eq_true (rfl)) dX12_init_143 (fun r u t H locs ht hw hB hz hJ hS => ?_)
    subst hw
    obtain ⟨hP, hD⟩ := hJ [] (fun k q h => by simp at h) ⟨fun i j p q h => by simp at h, fun k q h => by simp at h⟩
    have hP : va_P D vwCl [(z, .inr (12, [.ref b, .ref q7, .ref q15, .ref q23, .ref q31, .ref q39, .ref q47, .ref q55])), (q7, .inl (cy 0, 6, .inl fh)), (q15, .inl (cy 0, 30, .inl fd)), (q23, .inl (cy 0, 30, .inl g2)), (q31, .inl (cy 0, 30, .inl fs)), (q39, .inl (cy 0, 6, .inl fc)), (q47, .inl (cy 0, 30, .inl g3)), (q55, .inl (cy 0, 30, .inl g1))] H := hP
    have hD : va_D A [(z, .inr (12, [.ref b, .ref q7, .ref q15, .ref q23, .ref q31, .ref q39, .ref q47, .ref q55])), (q7, .inl (cy 0, 6, .inl fh)), (q15, .inl (cy 0, 30, .inl fd)), (q23, .inl (cy 0, 30, .inl g2)), (q31, .inl (cy 0, 30, .inl fs)), (q39, .inl (cy 0, 6, .inl fc)), (q47, .inl (cy 0, 30, .inl g3)), (q55, .inl (cy 0, 30, .inl g1))] := hD
    refine kv_ast hx hb hK hP hD hS 2 0 rfl rfl (by omega) (by omega) (by omega) dX12_init_146 (fun H locs hP hD hS => ?_)
    have hP : va_P D vwCl [(z, .inr (12, [.ref b, .ref q7, .ref q15, .ref q23, .ref q31, .ref q39, .ref q47, .ref q55])), (q7, .inl (cy 0, 6, .inl fh)), (q15, .inl (cy 0, 30, .inl (upd fd ((i : Int)).toNat (ki (nuS L xs (i : Int) 0))))), (q23, .inl (cy 0, 30, .inl g2)), (q31, .inl (cy 0, 30, .inl fs)), (q39, .inl (cy 0, 6, .inl fc)), (q47, .inl (cy 0, 30, .inl g3)), (q55, .inl (cy 0, 30, .inl g1))] H := hP
    have hD : va_D A [(z, .inr (12, [.ref b, .ref q7, .ref q15, .ref q23, .ref q31, .ref q39, .ref q47, .ref q55])), (q7, .inl (cy 0, 6, .inl fh)), (q15, .inl (cy 0, 30, .inl (upd fd ((i : Int)).toNat (ki (nuS L xs (i : Int) 0))))), (q23, .inl (cy 0, 30, .inl g2)), (q31, .inl (cy 0, 30, .inl fs)), (q39, .inl (cy 0, 6, .inl fc)), (q47, .inl (cy 0, 30, .inl g3)), (q55, .inl (cy 0, 30, .inl g1))] := hD
    refine lv_aload_n hx hb dX12_init_147 rfl (lv_at hl 1 rfl) ?_
    refine va_get (D := D) (ci := 12) (v := .ref q55) (C := RX12) (T := TX12) (N := 8) hx hb hts xin_X12 hown hK hP 0 rfl rfl 7 (by decide) (hts _ (xw_mem 812 (by decide +kernel) rfl)) (fun _ h9 => h9) rfl dX12_init_148 ?_
    refine lv_iload_n hx hb dX12_init_151 rfl (lv_at hl 0 rfl) ?_
    refine lv_aload_n hx hb dX12_init_152 rfl (lv_at hl 2 rfl) ?_
    refine lv_iload_n hx hb dX12_init_153 rfl (lv_at hl 0 rfl) ?_
    refine lv_iconst (v := ki 1) hx hb dX12_init_154 rfl ?_
    have hPc : va_P D vwCl (([(z, .inr (12, [.ref b, .ref q7, .ref q15, .ref q23, .ref q31, .ref q39, .ref q47, .ref q55])), (q7, .inl (cy 0, 6, .inl fh)), (q15, .inl (cy 0, 30, .inl (upd fd ((i : Int)).toNat (ki (nuS L xs (i : Int) 0))))), (q23, .inl (cy 0, 30, .inl g2)), (q31, .inl (cy 0, 30, .inl fs)), (q39, .inl (cy 0, 6, .inl fc)), (q47, .inl (cy 0, 30, .inl g3)), (q55, .inl (cy 0, 30, .inl g1))] : va_W) ++ []) _ := hP
    have hDc : va_D A (([(z, .inr (12, [.ref b, .ref q7, .ref q15, .ref q23, .ref q31, .ref q39, .ref q47, .ref q55])), (q7, .inl (cy 0, 6, .inl fh)), (q15, .inl (cy 0, 30, .inl (upd fd ((i : Int)).toNat (ki (nuS L xs (i : Int) 0))))), (q23, .inl (cy 0, 30, .inl g2)), (q31, .inl (cy 0, 30, .inl fs)), (q39, .inl (cy 0, 6, .inl fc)), (q47, .inl (cy 0, 30, .inl g3)), (q55, .inl (cy 0, 30, .inl g1))] : va_W) ++ []) := hD
    refine kc_Ni (n := 3) hx hb hml hown hts ⟨xw_mem 799 (by decide +kernel) rfl, xw_mem 29 (by decide +kernel) rfl, hNs.2, ⟨by decide, by decide, by decide +kernel⟩⟩ (xw_mem 798 (by decide +kernel) rfl) hPc hDc hS hA [.ref b, .int (ki (i : Int)), .int (ki 1)] (rest := [.int (ki (i : Int)), .ref q55]) _ _ (c_L_number (i := (i : Int)) (k := 1) hL (by omega) (by omega) (by omega) (by omega) _) scP_bl (fun U hU hW => scP_to hX hbl hbA hS hU hW) ⟨(by omega), (by omega)⟩ (by omega) (by omega) rfl hl.1 rfl (Nat.le_of_ble_eq_true (rfl)) dX12_init_155 (fun r u t H locs ht hw hB hz hJ hS => ?_)
    subst hw
    obtain ⟨hP, hD⟩ := hJ [] (fun k q h => by simp at h) ⟨fun i j p q h => by simp at h, fun k q h => by simp at h⟩
    have hP : va_P D vwCl [(z, .inr (12, [.ref b, .ref q7, .ref q15, .ref q23, .ref q31, .ref q39, .ref q47, .ref q55])), (q7, .inl (cy 0, 6, .inl fh)), (q15, .inl (cy 0, 30, .inl (upd fd ((i : Int)).toNat (ki (nuS L xs (i : Int) 0))))), (q23, .inl (cy 0, 30, .inl g2)), (q31, .inl (cy 0, 30, .inl fs)), (q39, .inl (cy 0, 6, .inl fc)), (q47, .inl (cy 0, 30, .inl g3)), (q55, .inl (cy 0, 30, .inl g1))] H := hP
    have hD : va_D A [(z, .inr (12, [.ref b, .ref q7, .ref q15, .ref q23, .ref q31, .ref q39, .ref q47, .ref q55])), (q7, .inl (cy 0, 6, .inl fh)), (q15, .inl (cy 0, 30, .inl (upd fd ((i : Int)).toNat (ki (nuS L xs (i : Int) 0))))), (q23, .inl (cy 0, 30, .inl g2)), (q31, .inl (cy 0, 30, .inl fs)), (q39, .inl (cy 0, 6, .inl fc)), (q47, .inl (cy 0, 30, .inl g3)), (q55, .inl (cy 0, 30, .inl g1))] := hD
    refine kv_ast hx hb hK hP hD hS 7 0 rfl rfl (by omega) (by omega) (by omega) dX12_init_158 (fun H locs hP hD hS => ?_)
    have hP : va_P D vwCl [(z, .inr (12, [.ref b, .ref q7, .ref q15, .ref q23, .ref q31, .ref q39, .ref q47, .ref q55])), (q7, .inl (cy 0, 6, .inl fh)), (q15, .inl (cy 0, 30, .inl (upd fd ((i : Int)).toNat (ki (nuS L xs (i : Int) 0))))), (q23, .inl (cy 0, 30, .inl g2)), (q31, .inl (cy 0, 30, .inl fs)), (q39, .inl (cy 0, 6, .inl fc)), (q47, .inl (cy 0, 30, .inl g3)), (q55, .inl (cy 0, 30, .inl (upd g1 ((i : Int)).toNat (ki (nuS L xs (i : Int) 1)))))] H := hP
    have hD : va_D A [(z, .inr (12, [.ref b, .ref q7, .ref q15, .ref q23, .ref q31, .ref q39, .ref q47, .ref q55])), (q7, .inl (cy 0, 6, .inl fh)), (q15, .inl (cy 0, 30, .inl (upd fd ((i : Int)).toNat (ki (nuS L xs (i : Int) 0))))), (q23, .inl (cy 0, 30, .inl g2)), (q31, .inl (cy 0, 30, .inl fs)), (q39, .inl (cy 0, 6, .inl fc)), (q47, .inl (cy 0, 30, .inl g3)), (q55, .inl (cy 0, 30, .inl (upd g1 ((i : Int)).toNat (ki (nuS L xs (i : Int) 1)))))] := hD
    refine lv_aload_n hx hb dX12_init_159 rfl (lv_at hl 1 rfl) ?_
    refine va_get (D := D) (ci := 12) (v := .ref q23) (C := RX12) (T := TX12) (N := 8) hx hb hts xin_X12 hown hK hP 0 rfl rfl 3 (by decide) (hts _ (xw_mem 807 (by decide +kernel) rfl)) (fun _ h9 => h9) rfl dX12_init_160 ?_
    refine lv_iload_n hx hb dX12_init_163 rfl (lv_at hl 0 rfl) ?_
    refine lv_aload_n hx hb dX12_init_164 rfl (lv_at hl 2 rfl) ?_
    refine lv_iload_n hx hb dX12_init_165 rfl (lv_at hl 0 rfl) ?_
    refine lv_iconst (v := ki 2) hx hb dX12_init_166 rfl ?_
    have hPc : va_P D vwCl (([(z, .inr (12, [.ref b, .ref q7, .ref q15, .ref q23, .ref q31, .ref q39, .ref q47, .ref q55])), (q7, .inl (cy 0, 6, .inl fh)), (q15, .inl (cy 0, 30, .inl (upd fd ((i : Int)).toNat (ki (nuS L xs (i : Int) 0))))), (q23, .inl (cy 0, 30, .inl g2)), (q31, .inl (cy 0, 30, .inl fs)), (q39, .inl (cy 0, 6, .inl fc)), (q47, .inl (cy 0, 30, .inl g3)), (q55, .inl (cy 0, 30, .inl (upd g1 ((i : Int)).toNat (ki (nuS L xs (i : Int) 1)))))] : va_W) ++ []) _ := hP
    have hDc : va_D A (([(z, .inr (12, [.ref b, .ref q7, .ref q15, .ref q23, .ref q31, .ref q39, .ref q47, .ref q55])), (q7, .inl (cy 0, 6, .inl fh)), (q15, .inl (cy 0, 30, .inl (upd fd ((i : Int)).toNat (ki (nuS L xs (i : Int) 0))))), (q23, .inl (cy 0, 30, .inl g2)), (q31, .inl (cy 0, 30, .inl fs)), (q39, .inl (cy 0, 6, .inl fc)), (q47, .inl (cy 0, 30, .inl g3)), (q55, .inl (cy 0, 30, .inl (upd g1 ((i : Int)).toNat (ki (nuS L xs (i : Int) 1)))))] : va_W) ++ []) := hD
    refine kc_Ni (n := 3) hx hb hml hown hts ⟨xw_mem 799 (by decide +kernel) rfl, xw_mem 29 (by decide +kernel) rfl, hNs.2, ⟨by decide, by decide, by decide +kernel⟩⟩ (xw_mem 798 (by decide +kernel) rfl) hPc hDc hS hA [.ref b, .int (ki (i : Int)), .int (ki 2)] (rest := [.int (ki (i : Int)), .ref q23]) _ _ (c_L_number (i := (i : Int)) (k := 2) hL (by omega) (by omega) (by omega) (by omega) _) scP_bl (fun U hU hW => scP_to hX hbl hbA hS hU hW) ⟨(by omega), (by omega)⟩ (by omega) (by omega) rfl hl.1 rfl (Nat.le_of_ble_eq_true (rfl)) dX12_init_167 (fun r u t H locs ht hw hB hz hJ hS => ?_)
    subst hw
    obtain ⟨hP, hD⟩ := hJ [] (fun k q h => by simp at h) ⟨fun i j p q h => by simp at h, fun k q h => by simp at h⟩
    have hP : va_P D vwCl [(z, .inr (12, [.ref b, .ref q7, .ref q15, .ref q23, .ref q31, .ref q39, .ref q47, .ref q55])), (q7, .inl (cy 0, 6, .inl fh)), (q15, .inl (cy 0, 30, .inl (upd fd ((i : Int)).toNat (ki (nuS L xs (i : Int) 0))))), (q23, .inl (cy 0, 30, .inl g2)), (q31, .inl (cy 0, 30, .inl fs)), (q39, .inl (cy 0, 6, .inl fc)), (q47, .inl (cy 0, 30, .inl g3)), (q55, .inl (cy 0, 30, .inl (upd g1 ((i : Int)).toNat (ki (nuS L xs (i : Int) 1)))))] H := hP
    have hD : va_D A [(z, .inr (12, [.ref b, .ref q7, .ref q15, .ref q23, .ref q31, .ref q39, .ref q47, .ref q55])), (q7, .inl (cy 0, 6, .inl fh)), (q15, .inl (cy 0, 30, .inl (upd fd ((i : Int)).toNat (ki (nuS L xs (i : Int) 0))))), (q23, .inl (cy 0, 30, .inl g2)), (q31, .inl (cy 0, 30, .inl fs)), (q39, .inl (cy 0, 6, .inl fc)), (q47, .inl (cy 0, 30, .inl g3)), (q55, .inl (cy 0, 30, .inl (upd g1 ((i : Int)).toNat (ki (nuS L xs (i : Int) 1)))))] := hD
    refine kv_ast hx hb hK hP hD hS 3 0 rfl rfl (by omega) (by omega) (by omega) dX12_init_170 (fun H locs hP hD hS => ?_)
    have hP : va_P D vwCl [(z, .inr (12, [.ref b, .ref q7, .ref q15, .ref q23, .ref q31, .ref q39, .ref q47, .ref q55])), (q7, .inl (cy 0, 6, .inl fh)), (q15, .inl (cy 0, 30, .inl (upd fd ((i : Int)).toNat (ki (nuS L xs (i : Int) 0))))), (q23, .inl (cy 0, 30, .inl (upd g2 ((i : Int)).toNat (ki (nuS L xs (i : Int) 2))))), (q31, .inl (cy 0, 30, .inl fs)), (q39, .inl (cy 0, 6, .inl fc)), (q47, .inl (cy 0, 30, .inl g3)), (q55, .inl (cy 0, 30, .inl (upd g1 ((i : Int)).toNat (ki (nuS L xs (i : Int) 1)))))] H := hP
    have hD : va_D A [(z, .inr (12, [.ref b, .ref q7, .ref q15, .ref q23, .ref q31, .ref q39, .ref q47, .ref q55])), (q7, .inl (cy 0, 6, .inl fh)), (q15, .inl (cy 0, 30, .inl (upd fd ((i : Int)).toNat (ki (nuS L xs (i : Int) 0))))), (q23, .inl (cy 0, 30, .inl (upd g2 ((i : Int)).toNat (ki (nuS L xs (i : Int) 2))))), (q31, .inl (cy 0, 30, .inl fs)), (q39, .inl (cy 0, 6, .inl fc)), (q47, .inl (cy 0, 30, .inl g3)), (q55, .inl (cy 0, 30, .inl (upd g1 ((i : Int)).toNat (ki (nuS L xs (i : Int) 1)))))] := hD
    refine lv_aload_n hx hb dX12_init_171 rfl (lv_at hl 1 rfl) ?_
    refine va_get (D := D) (ci := 12) (v := .ref q31) (C := RX12) (T := TX12) (N := 8) hx hb hts xin_X12 hown hK hP 0 rfl rfl 4 (by decide) (hts _ (xw_mem 808 (by decide +kernel) rfl)) (fun _ h9 => h9) rfl dX12_init_172 ?_
    refine lv_iload_n hx hb dX12_init_175 rfl (lv_at hl 0 rfl) ?_
    refine lv_aload_n hx hb dX12_init_176 rfl (lv_at hl 2 rfl) ?_
    refine lv_iload_n hx hb dX12_init_177 rfl (lv_at hl 0 rfl) ?_
    refine lv_iconst (v := ki 3) hx hb dX12_init_178 rfl ?_
    have hPc : va_P D vwCl (([(z, .inr (12, [.ref b, .ref q7, .ref q15, .ref q23, .ref q31, .ref q39, .ref q47, .ref q55])), (q7, .inl (cy 0, 6, .inl fh)), (q15, .inl (cy 0, 30, .inl (upd fd ((i : Int)).toNat (ki (nuS L xs (i : Int) 0))))), (q23, .inl (cy 0, 30, .inl (upd g2 ((i : Int)).toNat (ki (nuS L xs (i : Int) 2))))), (q31, .inl (cy 0, 30, .inl fs)), (q39, .inl (cy 0, 6, .inl fc)), (q47, .inl (cy 0, 30, .inl g3)), (q55, .inl (cy 0, 30, .inl (upd g1 ((i : Int)).toNat (ki (nuS L xs (i : Int) 1)))))] : va_W) ++ []) _ := hP
    have hDc : va_D A (([(z, .inr (12, [.ref b, .ref q7, .ref q15, .ref q23, .ref q31, .ref q39, .ref q47, .ref q55])), (q7, .inl (cy 0, 6, .inl fh)), (q15, .inl (cy 0, 30, .inl (upd fd ((i : Int)).toNat (ki (nuS L xs (i : Int) 0))))), (q23, .inl (cy 0, 30, .inl (upd g2 ((i : Int)).toNat (ki (nuS L xs (i : Int) 2))))), (q31, .inl (cy 0, 30, .inl fs)), (q39, .inl (cy 0, 6, .inl fc)), (q47, .inl (cy 0, 30, .inl g3)), (q55, .inl (cy 0, 30, .inl (upd g1 ((i : Int)).toNat (ki (nuS L xs (i : Int) 1)))))] : va_W) ++ []) := hD
    refine kc_Ni (n := 3) hx hb hml hown hts ⟨xw_mem 799 (by decide +kernel) rfl, xw_mem 29 (by decide +kernel) rfl, hNs.2, ⟨by decide, by decide, by decide +kernel⟩⟩ (xw_mem 798 (by decide +kernel) rfl) hPc hDc hS hA [.ref b, .int (ki (i : Int)), .int (ki 3)] (rest := [.int (ki (i : Int)), .ref q31]) _ _ (c_L_number (i := (i : Int)) (k := 3) hL (by omega) (by omega) (by omega) (by omega) _) scP_bl (fun U hU hW => scP_to hX hbl hbA hS hU hW) ⟨(by omega), (by omega)⟩ (by omega) (by omega) rfl hl.1 rfl (Nat.le_of_ble_eq_true (rfl)) dX12_init_179 (fun r u t H locs ht hw hB hz hJ hS => ?_)
    subst hw
    obtain ⟨hP, hD⟩ := hJ [] (fun k q h => by simp at h) ⟨fun i j p q h => by simp at h, fun k q h => by simp at h⟩
    have hP : va_P D vwCl [(z, .inr (12, [.ref b, .ref q7, .ref q15, .ref q23, .ref q31, .ref q39, .ref q47, .ref q55])), (q7, .inl (cy 0, 6, .inl fh)), (q15, .inl (cy 0, 30, .inl (upd fd ((i : Int)).toNat (ki (nuS L xs (i : Int) 0))))), (q23, .inl (cy 0, 30, .inl (upd g2 ((i : Int)).toNat (ki (nuS L xs (i : Int) 2))))), (q31, .inl (cy 0, 30, .inl fs)), (q39, .inl (cy 0, 6, .inl fc)), (q47, .inl (cy 0, 30, .inl g3)), (q55, .inl (cy 0, 30, .inl (upd g1 ((i : Int)).toNat (ki (nuS L xs (i : Int) 1)))))] H := hP
    have hD : va_D A [(z, .inr (12, [.ref b, .ref q7, .ref q15, .ref q23, .ref q31, .ref q39, .ref q47, .ref q55])), (q7, .inl (cy 0, 6, .inl fh)), (q15, .inl (cy 0, 30, .inl (upd fd ((i : Int)).toNat (ki (nuS L xs (i : Int) 0))))), (q23, .inl (cy 0, 30, .inl (upd g2 ((i : Int)).toNat (ki (nuS L xs (i : Int) 2))))), (q31, .inl (cy 0, 30, .inl fs)), (q39, .inl (cy 0, 6, .inl fc)), (q47, .inl (cy 0, 30, .inl g3)), (q55, .inl (cy 0, 30, .inl (upd g1 ((i : Int)).toNat (ki (nuS L xs (i : Int) 1)))))] := hD
    refine kv_ast hx hb hK hP hD hS 4 0 rfl rfl (by omega) (by omega) (by omega) dX12_init_182 (fun H locs hP hD hS => ?_)
    have hP : va_P D vwCl [(z, .inr (12, [.ref b, .ref q7, .ref q15, .ref q23, .ref q31, .ref q39, .ref q47, .ref q55])), (q7, .inl (cy 0, 6, .inl fh)), (q15, .inl (cy 0, 30, .inl (upd fd ((i : Int)).toNat (ki (nuS L xs (i : Int) 0))))), (q23, .inl (cy 0, 30, .inl (upd g2 ((i : Int)).toNat (ki (nuS L xs (i : Int) 2))))), (q31, .inl (cy 0, 30, .inl (upd fs ((i : Int)).toNat (ki (nuS L xs (i : Int) 3))))), (q39, .inl (cy 0, 6, .inl fc)), (q47, .inl (cy 0, 30, .inl g3)), (q55, .inl (cy 0, 30, .inl (upd g1 ((i : Int)).toNat (ki (nuS L xs (i : Int) 1)))))] H := hP
    have hD : va_D A [(z, .inr (12, [.ref b, .ref q7, .ref q15, .ref q23, .ref q31, .ref q39, .ref q47, .ref q55])), (q7, .inl (cy 0, 6, .inl fh)), (q15, .inl (cy 0, 30, .inl (upd fd ((i : Int)).toNat (ki (nuS L xs (i : Int) 0))))), (q23, .inl (cy 0, 30, .inl (upd g2 ((i : Int)).toNat (ki (nuS L xs (i : Int) 2))))), (q31, .inl (cy 0, 30, .inl (upd fs ((i : Int)).toNat (ki (nuS L xs (i : Int) 3))))), (q39, .inl (cy 0, 6, .inl fc)), (q47, .inl (cy 0, 30, .inl g3)), (q55, .inl (cy 0, 30, .inl (upd g1 ((i : Int)).toNat (ki (nuS L xs (i : Int) 1)))))] := hD
    refine lv_aload_n hx hb dX12_init_183 rfl (lv_at hl 1 rfl) ?_
    refine va_get (D := D) (ci := 12) (v := .ref q47) (C := RX12) (T := TX12) (N := 8) hx hb hts xin_X12 hown hK hP 0 rfl rfl 6 (by decide) (hts _ (xw_mem 811 (by decide +kernel) rfl)) (fun _ h9 => h9) rfl dX12_init_184 ?_
    refine lv_iload_n hx hb dX12_init_187 rfl (lv_at hl 0 rfl) ?_
    refine lv_aload_n hx hb dX12_init_188 rfl (lv_at hl 2 rfl) ?_
    refine lv_iload_n hx hb dX12_init_189 rfl (lv_at hl 0 rfl) ?_
    refine lv_iconst (v := ki 4) hx hb dX12_init_190 rfl ?_
    have hPc : va_P D vwCl (([(z, .inr (12, [.ref b, .ref q7, .ref q15, .ref q23, .ref q31, .ref q39, .ref q47, .ref q55])), (q7, .inl (cy 0, 6, .inl fh)), (q15, .inl (cy 0, 30, .inl (upd fd ((i : Int)).toNat (ki (nuS L xs (i : Int) 0))))), (q23, .inl (cy 0, 30, .inl (upd g2 ((i : Int)).toNat (ki (nuS L xs (i : Int) 2))))), (q31, .inl (cy 0, 30, .inl (upd fs ((i : Int)).toNat (ki (nuS L xs (i : Int) 3))))), (q39, .inl (cy 0, 6, .inl fc)), (q47, .inl (cy 0, 30, .inl g3)), (q55, .inl (cy 0, 30, .inl (upd g1 ((i : Int)).toNat (ki (nuS L xs (i : Int) 1)))))] : va_W) ++ []) _ := hP
    have hDc : va_D A (([(z, .inr (12, [.ref b, .ref q7, .ref q15, .ref q23, .ref q31, .ref q39, .ref q47, .ref q55])), (q7, .inl (cy 0, 6, .inl fh)), (q15, .inl (cy 0, 30, .inl (upd fd ((i : Int)).toNat (ki (nuS L xs (i : Int) 0))))), (q23, .inl (cy 0, 30, .inl (upd g2 ((i : Int)).toNat (ki (nuS L xs (i : Int) 2))))), (q31, .inl (cy 0, 30, .inl (upd fs ((i : Int)).toNat (ki (nuS L xs (i : Int) 3))))), (q39, .inl (cy 0, 6, .inl fc)), (q47, .inl (cy 0, 30, .inl g3)), (q55, .inl (cy 0, 30, .inl (upd g1 ((i : Int)).toNat (ki (nuS L xs (i : Int) 1)))))] : va_W) ++ []) := hD
    refine kc_Ni (n := 3) hx hb hml hown hts ⟨xw_mem 799 (by decide +kernel) rfl, xw_mem 29 (by decide +kernel) rfl, hNs.2, ⟨by decide, by decide, by decide +kernel⟩⟩ (xw_mem 798 (by decide +kernel) rfl) hPc hDc hS hA [.ref b, .int (ki (i : Int)), .int (ki 4)] (rest := [.int (ki (i : Int)), .ref q47]) _ _ (c_L_number (i := (i : Int)) (k := 4) hL (by omega) (by omega) (by omega) (by omega) _) scP_bl (fun U hU hW => scP_to hX hbl hbA hS hU hW) ⟨(by omega), (by omega)⟩ (by omega) (by omega) rfl hl.1 rfl (Nat.le_of_ble_eq_true (rfl)) dX12_init_191 (fun r u t H locs ht hw hB hz hJ hS => ?_)
    subst hw
    obtain ⟨hP, hD⟩ := hJ [] (fun k q h => by simp at h) ⟨fun i j p q h => by simp at h, fun k q h => by simp at h⟩
    have hP : va_P D vwCl [(z, .inr (12, [.ref b, .ref q7, .ref q15, .ref q23, .ref q31, .ref q39, .ref q47, .ref q55])), (q7, .inl (cy 0, 6, .inl fh)), (q15, .inl (cy 0, 30, .inl (upd fd ((i : Int)).toNat (ki (nuS L xs (i : Int) 0))))), (q23, .inl (cy 0, 30, .inl (upd g2 ((i : Int)).toNat (ki (nuS L xs (i : Int) 2))))), (q31, .inl (cy 0, 30, .inl (upd fs ((i : Int)).toNat (ki (nuS L xs (i : Int) 3))))), (q39, .inl (cy 0, 6, .inl fc)), (q47, .inl (cy 0, 30, .inl g3)), (q55, .inl (cy 0, 30, .inl (upd g1 ((i : Int)).toNat (ki (nuS L xs (i : Int) 1)))))] H := hP
    have hD : va_D A [(z, .inr (12, [.ref b, .ref q7, .ref q15, .ref q23, .ref q31, .ref q39, .ref q47, .ref q55])), (q7, .inl (cy 0, 6, .inl fh)), (q15, .inl (cy 0, 30, .inl (upd fd ((i : Int)).toNat (ki (nuS L xs (i : Int) 0))))), (q23, .inl (cy 0, 30, .inl (upd g2 ((i : Int)).toNat (ki (nuS L xs (i : Int) 2))))), (q31, .inl (cy 0, 30, .inl (upd fs ((i : Int)).toNat (ki (nuS L xs (i : Int) 3))))), (q39, .inl (cy 0, 6, .inl fc)), (q47, .inl (cy 0, 30, .inl g3)), (q55, .inl (cy 0, 30, .inl (upd g1 ((i : Int)).toNat (ki (nuS L xs (i : Int) 1)))))] := hD
    refine kv_ast hx hb hK hP hD hS 6 0 rfl rfl (by omega) (by omega) (by omega) dX12_init_194 (fun H locs hP hD hS => ?_)
    have hP : va_P D vwCl [(z, .inr (12, [.ref b, .ref q7, .ref q15, .ref q23, .ref q31, .ref q39, .ref q47, .ref q55])), (q7, .inl (cy 0, 6, .inl fh)), (q15, .inl (cy 0, 30, .inl (upd fd ((i : Int)).toNat (ki (nuS L xs (i : Int) 0))))), (q23, .inl (cy 0, 30, .inl (upd g2 ((i : Int)).toNat (ki (nuS L xs (i : Int) 2))))), (q31, .inl (cy 0, 30, .inl (upd fs ((i : Int)).toNat (ki (nuS L xs (i : Int) 3))))), (q39, .inl (cy 0, 6, .inl fc)), (q47, .inl (cy 0, 30, .inl (upd g3 ((i : Int)).toNat (ki (nuS L xs (i : Int) 4))))), (q55, .inl (cy 0, 30, .inl (upd g1 ((i : Int)).toNat (ki (nuS L xs (i : Int) 1)))))] H := hP
    have hD : va_D A [(z, .inr (12, [.ref b, .ref q7, .ref q15, .ref q23, .ref q31, .ref q39, .ref q47, .ref q55])), (q7, .inl (cy 0, 6, .inl fh)), (q15, .inl (cy 0, 30, .inl (upd fd ((i : Int)).toNat (ki (nuS L xs (i : Int) 0))))), (q23, .inl (cy 0, 30, .inl (upd g2 ((i : Int)).toNat (ki (nuS L xs (i : Int) 2))))), (q31, .inl (cy 0, 30, .inl (upd fs ((i : Int)).toNat (ki (nuS L xs (i : Int) 3))))), (q39, .inl (cy 0, 6, .inl fc)), (q47, .inl (cy 0, 30, .inl (upd g3 ((i : Int)).toNat (ki (nuS L xs (i : Int) 4))))), (q55, .inl (cy 0, 30, .inl (upd g1 ((i : Int)).toNat (ki (nuS L xs (i : Int) 1)))))] := hD
    refine lv_iinc (v := ki ((i + 1 : Nat) : Int)) (lv' := [(2, .int (ki ((i + 1 : Nat) : Int))), (0, .ref z), (1, .ref b)]) hx hb dX12_init_195 hl (k := 0) rfl ((ki_add _ _).trans (congrArg ki (by omega))) (by decide) rfl (fun ls hl => ?_)
    refine lv_goto (tgt := 129) hx hb dX12_init_198 (by decide) ?_
    exact ih (i + 1) (by omega) fh fc _ _ _ _ _ hh (upd_to (g := fun j => nuS L xs j 0) hd9 rfl) (upd_to (g := fun j => nuS L xs j 3) hs9 rfl) H _ ls (lv_sub hl [0, 1, 2] rfl) hP hD hS
end SI
set_option maxHeartbeats 4000000 in
set_option maxRecDepth 20000 in
theorem c_X12_init (hL : L ≤ 1000) {z : Nat} (sz : Nat) : Met l yX12_init (Cond.code yX12_init cX12_init 3 none :: xTB) ({ frames := 4, cells := 7, slots := 162, locals := 140 } : Room) (va_Pc [.ref z, .ref b] (jPs D cy mi zE zc ad b L xs [(z, .inr (12, [.null, .null, .null, .null, .null, .null, .null, .null]))] sz)) (va_Qv (S := Unit) (fun _ => True) (fun u t => ∃ w : va_W, isS cy b L xs z w ∧ va_P D vwCl w t.heap ∧ va_D (va_A [(z, .inr (12, [.null, .null, .null, .null, .null, .null, .null, .null]))] sz) w) (va_A [(z, .inr (12, [.null, .null, .null, .null, .null, .null, .null, .null]))] sz)) 7 162 (va_A [(z, .inr (12, [.null, .null, .null, .null, .null, .null, .null, .null]))] sz) := by
  refine Met.ofW (cc := cX12_init) (maxL := 3) (ret := none) (by decide) rfl ?_
  intro p e s m args below meth c s₁ B hml hv
  obtain ⟨rfl, ⟨hsz, hP, hK, hD0, hN, hZ⟩, ⟨hbl, hX⟩, hbA0, hNs⟩ := hv
  subst hsz
  have hx := B.exec
  have hb := B.bytes
  have hr := B.returns
  have hts : ∀ w ∈ xTB, w.before ([.ref z, .ref b] : List Value).toArray s = true := fun w hw => atoms_spec (ws := Cond.code yX12_init cX12_init 3 none :: xTB) B.pre w (List.mem_cons_of_mem _ hw)
  have hown : s.vm.findClass RX12 = some m.cls := findClass_of_methodNamed B.named
  have hlocks := B.notSynchronized
  have hl := lv_entry ([.ref z, .ref b]) (n := 3) (Nat.le_of_ble_eq_true rfl)
  rw [lg_entry_eq]
  generalize (lg_sl ([.ref z, .ref b]) ++ List.replicate (3 - (lg_sl ([.ref z, .ref b])).length) Slot.unset).toArray = ls at hl ⊢
  have hl : lv_has ls 3 [(0, .ref z), (1, .ref b)] := hl
  have hin : meth.name = "<init>" := (name_of_methodNamed B.named B.method).1
  have hD := hD0.self (sz := s.heap.size)
  generalize hAe : va_A [(z, .inr (12, [.null, .null, .null, .null, .null, .null, .null, .null]))] s.heap.size = A at hD hZ hbA0 ⊢
  have hbA : ¬ A b := hbA0
  have hA : ∀ q : Nat, s.heap.size ≤ q → A q := fun q h => by rw [← hAe]; exact Or.inr h
  have hS : va_S A s.heap s.heap [] := va_S.rf
  have hP : va_P D vwCl [(z, .inr (12, [.null, .null, .null, .null, .null, .null, .null, .null]))] s.heap := hP
  refine lv_aload_n hx hb dX12_init_0 rfl (lv_at hl 0 rfl) ?_
  refine W.objInit hx hb hown (hts _ (xw_mem 792 (by decide +kernel) rfl)) (hts _ (xw_mem 63 (by decide +kernel) rfl)) (hts _ (xw_mem 64 (by decide +kernel) rfl)) rfl (by rw [hml]; exact hl.1) rfl dX12_init_1 (Nat.le_of_ble_eq_true rfl) (Nat.le_of_ble_eq_true rfl) ?_
  refine W.eq (g2 := F0 m 4 ls []) rfl ?_
  refine lv_aload_n hx hb dX12_init_4 rfl (lv_at hl 0 rfl) ?_
  refine lv_bipush (v := ki 6) hx hb dX12_init_5 rfl ?_
  refine x_newa (atype := .int) (ty := .int) hx hb (hts _ xar_i) rfl hK 0 rfl hP hD hS hA (N' := 6) (a0 := (6, .inl (fun _ => (0 : Int32)))) rfl (by decide) (by decide) (Nat.le_of_ble_eq_true rfl) (Nat.le_of_ble_eq_true rfl) (Nat.le_of_ble_eq_true rfl) dX12_init_7 (fun q7 H hP hD hS _ _ => ?_)
  have hP : va_P D vwCl [(z, .inr (12, [.null, .null, .null, .null, .null, .null, .null, .null])), (q7, .inl (cy 0, 6, .inl (fun _ => (0 : Int32))))] H := hP
  have hD : va_D A [(z, .inr (12, [.null, .null, .null, .null, .null, .null, .null, .null])), (q7, .inl (cy 0, 6, .inl (fun _ => (0 : Int32))))] := hD
  refine va_putF (D := D) (ci := 12) (v := .ref q7) (ty := (.array .int)) (C := RX12) (T := TX12) (N := 8) hx hb hts xin_X12 tyX12 tyX12_ok nmX12 hown hK hP hD hS 0 rfl rfl 1 (by decide) (hts _ (xw_mem 803 (by decide +kernel) rfl)) (fun _ h9 => h9) rfl hin rfl (by decide +kernel) rfl rfl (Nat.le_of_ble_eq_true rfl) dX12_init_9 (fun H locs hP hD hS => ?_)
  have hP : va_P D vwCl [(z, .inr (12, [.null, .ref q7, .null, .null, .null, .null, .null, .null])), (q7, .inl (cy 0, 6, .inl (fun _ => (0 : Int32))))] H := hP
  have hD : va_D A [(z, .inr (12, [.null, .ref q7, .null, .null, .null, .null, .null, .null])), (q7, .inl (cy 0, 6, .inl (fun _ => (0 : Int32))))] := hD
  refine lv_aload_n hx hb dX12_init_12 rfl (lv_at hl 0 rfl) ?_
  refine lv_bipush (v := ki 30) hx hb dX12_init_13 rfl ?_
  refine x_newa (atype := .int) (ty := .int) hx hb (hts _ xar_i) rfl hK 0 rfl hP hD hS hA (N' := 30) (a0 := (30, .inl (fun _ => (0 : Int32)))) rfl (by decide) (by decide) (Nat.le_of_ble_eq_true rfl) (Nat.le_of_ble_eq_true rfl) (Nat.le_of_ble_eq_true rfl) dX12_init_15 (fun q15 H hP hD hS _ _ => ?_)
  have hP : va_P D vwCl [(z, .inr (12, [.null, .ref q7, .null, .null, .null, .null, .null, .null])), (q7, .inl (cy 0, 6, .inl (fun _ => (0 : Int32)))), (q15, .inl (cy 0, 30, .inl (fun _ => (0 : Int32))))] H := hP
  have hD : va_D A [(z, .inr (12, [.null, .ref q7, .null, .null, .null, .null, .null, .null])), (q7, .inl (cy 0, 6, .inl (fun _ => (0 : Int32)))), (q15, .inl (cy 0, 30, .inl (fun _ => (0 : Int32))))] := hD
  refine va_putF (D := D) (ci := 12) (v := .ref q15) (ty := (.array .int)) (C := RX12) (T := TX12) (N := 8) hx hb hts xin_X12 tyX12 tyX12_ok nmX12 hown hK hP hD hS 0 rfl rfl 2 (by decide) (hts _ (xw_mem 805 (by decide +kernel) rfl)) (fun _ h9 => h9) rfl hin rfl (by decide +kernel) rfl rfl (Nat.le_of_ble_eq_true rfl) dX12_init_17 (fun H locs hP hD hS => ?_)
  have hP : va_P D vwCl [(z, .inr (12, [.null, .ref q7, .ref q15, .null, .null, .null, .null, .null])), (q7, .inl (cy 0, 6, .inl (fun _ => (0 : Int32)))), (q15, .inl (cy 0, 30, .inl (fun _ => (0 : Int32))))] H := hP
  have hD : va_D A [(z, .inr (12, [.null, .ref q7, .ref q15, .null, .null, .null, .null, .null])), (q7, .inl (cy 0, 6, .inl (fun _ => (0 : Int32)))), (q15, .inl (cy 0, 30, .inl (fun _ => (0 : Int32))))] := hD
  refine lv_aload_n hx hb dX12_init_20 rfl (lv_at hl 0 rfl) ?_
  refine lv_bipush (v := ki 30) hx hb dX12_init_21 rfl ?_
  refine x_newa (atype := .int) (ty := .int) hx hb (hts _ xar_i) rfl hK 0 rfl hP hD hS hA (N' := 30) (a0 := (30, .inl (fun _ => (0 : Int32)))) rfl (by decide) (by decide) (Nat.le_of_ble_eq_true rfl) (Nat.le_of_ble_eq_true rfl) (Nat.le_of_ble_eq_true rfl) dX12_init_23 (fun q23 H hP hD hS _ _ => ?_)
  have hP : va_P D vwCl [(z, .inr (12, [.null, .ref q7, .ref q15, .null, .null, .null, .null, .null])), (q7, .inl (cy 0, 6, .inl (fun _ => (0 : Int32)))), (q15, .inl (cy 0, 30, .inl (fun _ => (0 : Int32)))), (q23, .inl (cy 0, 30, .inl (fun _ => (0 : Int32))))] H := hP
  have hD : va_D A [(z, .inr (12, [.null, .ref q7, .ref q15, .null, .null, .null, .null, .null])), (q7, .inl (cy 0, 6, .inl (fun _ => (0 : Int32)))), (q15, .inl (cy 0, 30, .inl (fun _ => (0 : Int32)))), (q23, .inl (cy 0, 30, .inl (fun _ => (0 : Int32))))] := hD
  refine va_putF (D := D) (ci := 12) (v := .ref q23) (ty := (.array .int)) (C := RX12) (T := TX12) (N := 8) hx hb hts xin_X12 tyX12 tyX12_ok nmX12 hown hK hP hD hS 0 rfl rfl 3 (by decide) (hts _ (xw_mem 807 (by decide +kernel) rfl)) (fun _ h9 => h9) rfl hin rfl (by decide +kernel) rfl rfl (Nat.le_of_ble_eq_true rfl) dX12_init_25 (fun H locs hP hD hS => ?_)
  have hP : va_P D vwCl [(z, .inr (12, [.null, .ref q7, .ref q15, .ref q23, .null, .null, .null, .null])), (q7, .inl (cy 0, 6, .inl (fun _ => (0 : Int32)))), (q15, .inl (cy 0, 30, .inl (fun _ => (0 : Int32)))), (q23, .inl (cy 0, 30, .inl (fun _ => (0 : Int32))))] H := hP
  have hD : va_D A [(z, .inr (12, [.null, .ref q7, .ref q15, .ref q23, .null, .null, .null, .null])), (q7, .inl (cy 0, 6, .inl (fun _ => (0 : Int32)))), (q15, .inl (cy 0, 30, .inl (fun _ => (0 : Int32)))), (q23, .inl (cy 0, 30, .inl (fun _ => (0 : Int32))))] := hD
  refine lv_aload_n hx hb dX12_init_28 rfl (lv_at hl 0 rfl) ?_
  refine lv_bipush (v := ki 30) hx hb dX12_init_29 rfl ?_
  refine x_newa (atype := .int) (ty := .int) hx hb (hts _ xar_i) rfl hK 0 rfl hP hD hS hA (N' := 30) (a0 := (30, .inl (fun _ => (0 : Int32)))) rfl (by decide) (by decide) (Nat.le_of_ble_eq_true rfl) (Nat.le_of_ble_eq_true rfl) (Nat.le_of_ble_eq_true rfl) dX12_init_31 (fun q31 H hP hD hS _ _ => ?_)
  have hP : va_P D vwCl [(z, .inr (12, [.null, .ref q7, .ref q15, .ref q23, .null, .null, .null, .null])), (q7, .inl (cy 0, 6, .inl (fun _ => (0 : Int32)))), (q15, .inl (cy 0, 30, .inl (fun _ => (0 : Int32)))), (q23, .inl (cy 0, 30, .inl (fun _ => (0 : Int32)))), (q31, .inl (cy 0, 30, .inl (fun _ => (0 : Int32))))] H := hP
  have hD : va_D A [(z, .inr (12, [.null, .ref q7, .ref q15, .ref q23, .null, .null, .null, .null])), (q7, .inl (cy 0, 6, .inl (fun _ => (0 : Int32)))), (q15, .inl (cy 0, 30, .inl (fun _ => (0 : Int32)))), (q23, .inl (cy 0, 30, .inl (fun _ => (0 : Int32)))), (q31, .inl (cy 0, 30, .inl (fun _ => (0 : Int32))))] := hD
  refine va_putF (D := D) (ci := 12) (v := .ref q31) (ty := (.array .int)) (C := RX12) (T := TX12) (N := 8) hx hb hts xin_X12 tyX12 tyX12_ok nmX12 hown hK hP hD hS 0 rfl rfl 4 (by decide) (hts _ (xw_mem 808 (by decide +kernel) rfl)) (fun _ h9 => h9) rfl hin rfl (by decide +kernel) rfl rfl (Nat.le_of_ble_eq_true rfl) dX12_init_33 (fun H locs hP hD hS => ?_)
  have hP : va_P D vwCl [(z, .inr (12, [.null, .ref q7, .ref q15, .ref q23, .ref q31, .null, .null, .null])), (q7, .inl (cy 0, 6, .inl (fun _ => (0 : Int32)))), (q15, .inl (cy 0, 30, .inl (fun _ => (0 : Int32)))), (q23, .inl (cy 0, 30, .inl (fun _ => (0 : Int32)))), (q31, .inl (cy 0, 30, .inl (fun _ => (0 : Int32))))] H := hP
  have hD : va_D A [(z, .inr (12, [.null, .ref q7, .ref q15, .ref q23, .ref q31, .null, .null, .null])), (q7, .inl (cy 0, 6, .inl (fun _ => (0 : Int32)))), (q15, .inl (cy 0, 30, .inl (fun _ => (0 : Int32)))), (q23, .inl (cy 0, 30, .inl (fun _ => (0 : Int32)))), (q31, .inl (cy 0, 30, .inl (fun _ => (0 : Int32))))] := hD
  refine lv_aload_n hx hb dX12_init_36 rfl (lv_at hl 0 rfl) ?_
  refine lv_bipush (v := ki 6) hx hb dX12_init_37 rfl ?_
  refine x_newa (atype := .int) (ty := .int) hx hb (hts _ xar_i) rfl hK 0 rfl hP hD hS hA (N' := 6) (a0 := (6, .inl (fun _ => (0 : Int32)))) rfl (by decide) (by decide) (Nat.le_of_ble_eq_true rfl) (Nat.le_of_ble_eq_true rfl) (Nat.le_of_ble_eq_true rfl) dX12_init_39 (fun q39 H hP hD hS _ _ => ?_)
  have hP : va_P D vwCl [(z, .inr (12, [.null, .ref q7, .ref q15, .ref q23, .ref q31, .null, .null, .null])), (q7, .inl (cy 0, 6, .inl (fun _ => (0 : Int32)))), (q15, .inl (cy 0, 30, .inl (fun _ => (0 : Int32)))), (q23, .inl (cy 0, 30, .inl (fun _ => (0 : Int32)))), (q31, .inl (cy 0, 30, .inl (fun _ => (0 : Int32)))), (q39, .inl (cy 0, 6, .inl (fun _ => (0 : Int32))))] H := hP
  have hD : va_D A [(z, .inr (12, [.null, .ref q7, .ref q15, .ref q23, .ref q31, .null, .null, .null])), (q7, .inl (cy 0, 6, .inl (fun _ => (0 : Int32)))), (q15, .inl (cy 0, 30, .inl (fun _ => (0 : Int32)))), (q23, .inl (cy 0, 30, .inl (fun _ => (0 : Int32)))), (q31, .inl (cy 0, 30, .inl (fun _ => (0 : Int32)))), (q39, .inl (cy 0, 6, .inl (fun _ => (0 : Int32))))] := hD
  refine va_putF (D := D) (ci := 12) (v := .ref q39) (ty := (.array .int)) (C := RX12) (T := TX12) (N := 8) hx hb hts xin_X12 tyX12 tyX12_ok nmX12 hown hK hP hD hS 0 rfl rfl 5 (by decide) (hts _ (xw_mem 810 (by decide +kernel) rfl)) (fun _ h9 => h9) rfl hin rfl (by decide +kernel) rfl rfl (Nat.le_of_ble_eq_true rfl) dX12_init_41 (fun H locs hP hD hS => ?_)
  have hP : va_P D vwCl [(z, .inr (12, [.null, .ref q7, .ref q15, .ref q23, .ref q31, .ref q39, .null, .null])), (q7, .inl (cy 0, 6, .inl (fun _ => (0 : Int32)))), (q15, .inl (cy 0, 30, .inl (fun _ => (0 : Int32)))), (q23, .inl (cy 0, 30, .inl (fun _ => (0 : Int32)))), (q31, .inl (cy 0, 30, .inl (fun _ => (0 : Int32)))), (q39, .inl (cy 0, 6, .inl (fun _ => (0 : Int32))))] H := hP
  have hD : va_D A [(z, .inr (12, [.null, .ref q7, .ref q15, .ref q23, .ref q31, .ref q39, .null, .null])), (q7, .inl (cy 0, 6, .inl (fun _ => (0 : Int32)))), (q15, .inl (cy 0, 30, .inl (fun _ => (0 : Int32)))), (q23, .inl (cy 0, 30, .inl (fun _ => (0 : Int32)))), (q31, .inl (cy 0, 30, .inl (fun _ => (0 : Int32)))), (q39, .inl (cy 0, 6, .inl (fun _ => (0 : Int32))))] := hD
  refine lv_aload_n hx hb dX12_init_44 rfl (lv_at hl 0 rfl) ?_
  refine lv_bipush (v := ki 30) hx hb dX12_init_45 rfl ?_
  refine x_newa (atype := .int) (ty := .int) hx hb (hts _ xar_i) rfl hK 0 rfl hP hD hS hA (N' := 30) (a0 := (30, .inl (fun _ => (0 : Int32)))) rfl (by decide) (by decide) (Nat.le_of_ble_eq_true rfl) (Nat.le_of_ble_eq_true rfl) (Nat.le_of_ble_eq_true rfl) dX12_init_47 (fun q47 H hP hD hS _ _ => ?_)
  have hP : va_P D vwCl [(z, .inr (12, [.null, .ref q7, .ref q15, .ref q23, .ref q31, .ref q39, .null, .null])), (q7, .inl (cy 0, 6, .inl (fun _ => (0 : Int32)))), (q15, .inl (cy 0, 30, .inl (fun _ => (0 : Int32)))), (q23, .inl (cy 0, 30, .inl (fun _ => (0 : Int32)))), (q31, .inl (cy 0, 30, .inl (fun _ => (0 : Int32)))), (q39, .inl (cy 0, 6, .inl (fun _ => (0 : Int32)))), (q47, .inl (cy 0, 30, .inl (fun _ => (0 : Int32))))] H := hP
  have hD : va_D A [(z, .inr (12, [.null, .ref q7, .ref q15, .ref q23, .ref q31, .ref q39, .null, .null])), (q7, .inl (cy 0, 6, .inl (fun _ => (0 : Int32)))), (q15, .inl (cy 0, 30, .inl (fun _ => (0 : Int32)))), (q23, .inl (cy 0, 30, .inl (fun _ => (0 : Int32)))), (q31, .inl (cy 0, 30, .inl (fun _ => (0 : Int32)))), (q39, .inl (cy 0, 6, .inl (fun _ => (0 : Int32)))), (q47, .inl (cy 0, 30, .inl (fun _ => (0 : Int32))))] := hD
  refine va_putF (D := D) (ci := 12) (v := .ref q47) (ty := (.array .int)) (C := RX12) (T := TX12) (N := 8) hx hb hts xin_X12 tyX12 tyX12_ok nmX12 hown hK hP hD hS 0 rfl rfl 6 (by decide) (hts _ (xw_mem 811 (by decide +kernel) rfl)) (fun _ h9 => h9) rfl hin rfl (by decide +kernel) rfl rfl (Nat.le_of_ble_eq_true rfl) dX12_init_49 (fun H locs hP hD hS => ?_)
  have hP : va_P D vwCl [(z, .inr (12, [.null, .ref q7, .ref q15, .ref q23, .ref q31, .ref q39, .ref q47, .null])), (q7, .inl (cy 0, 6, .inl (fun _ => (0 : Int32)))), (q15, .inl (cy 0, 30, .inl (fun _ => (0 : Int32)))), (q23, .inl (cy 0, 30, .inl (fun _ => (0 : Int32)))), (q31, .inl (cy 0, 30, .inl (fun _ => (0 : Int32)))), (q39, .inl (cy 0, 6, .inl (fun _ => (0 : Int32)))), (q47, .inl (cy 0, 30, .inl (fun _ => (0 : Int32))))] H := hP
  have hD : va_D A [(z, .inr (12, [.null, .ref q7, .ref q15, .ref q23, .ref q31, .ref q39, .ref q47, .null])), (q7, .inl (cy 0, 6, .inl (fun _ => (0 : Int32)))), (q15, .inl (cy 0, 30, .inl (fun _ => (0 : Int32)))), (q23, .inl (cy 0, 30, .inl (fun _ => (0 : Int32)))), (q31, .inl (cy 0, 30, .inl (fun _ => (0 : Int32)))), (q39, .inl (cy 0, 6, .inl (fun _ => (0 : Int32)))), (q47, .inl (cy 0, 30, .inl (fun _ => (0 : Int32))))] := hD
  refine lv_aload_n hx hb dX12_init_52 rfl (lv_at hl 0 rfl) ?_
  refine lv_bipush (v := ki 30) hx hb dX12_init_53 rfl ?_
  refine x_newa (atype := .int) (ty := .int) hx hb (hts _ xar_i) rfl hK 0 rfl hP hD hS hA (N' := 30) (a0 := (30, .inl (fun _ => (0 : Int32)))) rfl (by decide) (by decide) (Nat.le_of_ble_eq_true rfl) (Nat.le_of_ble_eq_true rfl) (Nat.le_of_ble_eq_true rfl) dX12_init_55 (fun q55 H hP hD hS _ _ => ?_)
  have hP : va_P D vwCl [(z, .inr (12, [.null, .ref q7, .ref q15, .ref q23, .ref q31, .ref q39, .ref q47, .null])), (q7, .inl (cy 0, 6, .inl (fun _ => (0 : Int32)))), (q15, .inl (cy 0, 30, .inl (fun _ => (0 : Int32)))), (q23, .inl (cy 0, 30, .inl (fun _ => (0 : Int32)))), (q31, .inl (cy 0, 30, .inl (fun _ => (0 : Int32)))), (q39, .inl (cy 0, 6, .inl (fun _ => (0 : Int32)))), (q47, .inl (cy 0, 30, .inl (fun _ => (0 : Int32)))), (q55, .inl (cy 0, 30, .inl (fun _ => (0 : Int32))))] H := hP
  have hD : va_D A [(z, .inr (12, [.null, .ref q7, .ref q15, .ref q23, .ref q31, .ref q39, .ref q47, .null])), (q7, .inl (cy 0, 6, .inl (fun _ => (0 : Int32)))), (q15, .inl (cy 0, 30, .inl (fun _ => (0 : Int32)))), (q23, .inl (cy 0, 30, .inl (fun _ => (0 : Int32)))), (q31, .inl (cy 0, 30, .inl (fun _ => (0 : Int32)))), (q39, .inl (cy 0, 6, .inl (fun _ => (0 : Int32)))), (q47, .inl (cy 0, 30, .inl (fun _ => (0 : Int32)))), (q55, .inl (cy 0, 30, .inl (fun _ => (0 : Int32))))] := hD
  refine va_put (D := D) (ci := 12) (v := .ref q55) (ty := (.array .int)) (C := RX12) (T := TX12) (N := 8) hx hb hts xin_X12 tyX12 tyX12_ok nmX12 hown hK hP hD hS 0 rfl rfl 7 (by decide) (hts _ (xw_mem 812 (by decide +kernel) rfl)) (fun _ h9 => h9) rfl (by decide +kernel) rfl rfl (Nat.le_of_ble_eq_true rfl) dX12_init_57 (fun H locs hP hD hS => ?_)
  have hP : va_P D vwCl [(z, .inr (12, [.null, .ref q7, .ref q15, .ref q23, .ref q31, .ref q39, .ref q47, .ref q55])), (q7, .inl (cy 0, 6, .inl (fun _ => (0 : Int32)))), (q15, .inl (cy 0, 30, .inl (fun _ => (0 : Int32)))), (q23, .inl (cy 0, 30, .inl (fun _ => (0 : Int32)))), (q31, .inl (cy 0, 30, .inl (fun _ => (0 : Int32)))), (q39, .inl (cy 0, 6, .inl (fun _ => (0 : Int32)))), (q47, .inl (cy 0, 30, .inl (fun _ => (0 : Int32)))), (q55, .inl (cy 0, 30, .inl (fun _ => (0 : Int32))))] H := hP
  have hD : va_D A [(z, .inr (12, [.null, .ref q7, .ref q15, .ref q23, .ref q31, .ref q39, .ref q47, .ref q55])), (q7, .inl (cy 0, 6, .inl (fun _ => (0 : Int32)))), (q15, .inl (cy 0, 30, .inl (fun _ => (0 : Int32)))), (q23, .inl (cy 0, 30, .inl (fun _ => (0 : Int32)))), (q31, .inl (cy 0, 30, .inl (fun _ => (0 : Int32)))), (q39, .inl (cy 0, 6, .inl (fun _ => (0 : Int32)))), (q47, .inl (cy 0, 30, .inl (fun _ => (0 : Int32)))), (q55, .inl (cy 0, 30, .inl (fun _ => (0 : Int32))))] := hD
  refine lv_aload_n hx hb dX12_init_60 rfl (lv_at hl 0 rfl) ?_
  refine lv_aload_n hx hb dX12_init_61 rfl (lv_at hl 1 rfl) ?_
  refine va_putF (D := D) (ci := 12) (v := .ref b) (ty := (.array .int)) (C := RX12) (T := TX12) (N := 8) hx hb hts xin_X12 tyX12 tyX12_ok nmX12 hown hK hP hD hS 0 rfl rfl 0 (by decide) (hts _ (xw_mem 802 (by decide +kernel) rfl)) (fun _ h9 => h9) rfl hin rfl (by decide +kernel) rfl rfl (Nat.le_of_ble_eq_true rfl) dX12_init_62 (fun H locs hP hD hS => ?_)
  have hP : va_P D vwCl [(z, .inr (12, [.ref b, .ref q7, .ref q15, .ref q23, .ref q31, .ref q39, .ref q47, .ref q55])), (q7, .inl (cy 0, 6, .inl (fun _ => (0 : Int32)))), (q15, .inl (cy 0, 30, .inl (fun _ => (0 : Int32)))), (q23, .inl (cy 0, 30, .inl (fun _ => (0 : Int32)))), (q31, .inl (cy 0, 30, .inl (fun _ => (0 : Int32)))), (q39, .inl (cy 0, 6, .inl (fun _ => (0 : Int32)))), (q47, .inl (cy 0, 30, .inl (fun _ => (0 : Int32)))), (q55, .inl (cy 0, 30, .inl (fun _ => (0 : Int32))))] H := hP
  have hD : va_D A [(z, .inr (12, [.ref b, .ref q7, .ref q15, .ref q23, .ref q31, .ref q39, .ref q47, .ref q55])), (q7, .inl (cy 0, 6, .inl (fun _ => (0 : Int32)))), (q15, .inl (cy 0, 30, .inl (fun _ => (0 : Int32)))), (q23, .inl (cy 0, 30, .inl (fun _ => (0 : Int32)))), (q31, .inl (cy 0, 30, .inl (fun _ => (0 : Int32)))), (q39, .inl (cy 0, 6, .inl (fun _ => (0 : Int32)))), (q47, .inl (cy 0, 30, .inl (fun _ => (0 : Int32)))), (q55, .inl (cy 0, 30, .inl (fun _ => (0 : Int32))))] := hD
  refine lv_iconst (v := ki 0) hx hb dX12_init_65 rfl ?_
  refine lv_istore_n (lv' := [(2, .int (ki 0)), (0, .ref z), (1, .ref b)]) hx hb dX12_init_66 rfl hl (by decide) rfl (fun ls hl => ?_)
  refine SI_L1 hx hb hml hown hts hK hN hZ hX hbl hbA hNs hA hL ⟨Nat.le_of_ble_eq_true rfl, Nat.le_of_ble_eq_true rfl, Nat.le_of_ble_eq_true rfl, Nat.le_of_ble_eq_true rfl⟩ (fun fh fc hh H locs ls hl hP hD hS => ?_) 6 0 (by omega) _ _ (fun j hj => absurd hj (Nat.not_lt_zero j)) H _ ls (lv_sub hl [0, 1, 2] rfl) hP hD hS
  refine lv_iconst (v := ki 0) hx hb dX12_init_127 rfl ?_
  refine lv_istore_n (lv' := [(2, .int (ki 0)), (0, .ref z), (1, .ref b)]) hx hb dX12_init_128 rfl hl (by decide) rfl (fun ls hl => ?_)
  refine SI_L2 hx hb hml hown hts hK hN hZ hX hbl hbA hNs hA hL ⟨Nat.le_of_ble_eq_true rfl, Nat.le_of_ble_eq_true rfl, Nat.le_of_ble_eq_true rfl, Nat.le_of_ble_eq_true rfl⟩ (fun fh fc fd g1 g2 fs g3 hh hd9 hs9 H locs ls hl hP hD hS => ?_) 30 0 (by omega) fh fc _ _ _ _ _ hh (fun j hj => absurd hj (Nat.not_lt_zero j)) (fun j hj => absurd hj (Nat.not_lt_zero j)) H _ ls (lv_sub hl [0, 1, 2] rfl) hP hD hS
  have hP := hP.sub (ws' := [(z, .inr (12, [.ref b, .ref q7, .ref q15, .ref q23, .ref q31, .ref q39, .ref q47, .ref q55])), (q7, .inl (cy 0, 6, .inl fh)), (q15, .inl (cy 0, 30, .inl fd)), (q31, .inl (cy 0, 30, .inl fs))]) [0, 1, 2, 4] rfl
  have hD := hD.sub (ws' := [(z, .inr (12, [.ref b, .ref q7, .ref q15, .ref q23, .ref q31, .ref q39, .ref q47, .ref q55])), (q7, .inl (cy 0, 6, .inl fh)), (q15, .inl (cy 0, 30, .inl fd)), (q31, .inl (cy 0, 30, .inl fs))]) [0, 1, 2, 4] (by decide) rfl
  exact W.vret hx hb hr (fun t ht hW => ⟨⟨(), rfl, trivial, [(z, .inr (12, [.ref b, .ref q7, .ref q15, .ref q23, .ref q31, .ref q39, .ref q47, .ref q55])), (q7, .inl (cy 0, 6, .inl fh)), (q15, .inl (cy 0, 30, .inl fd)), (q31, .inl (cy 0, 30, .inl fs))], ⟨_, _, _, _, _, _, _, fh, fd, fs, hh, hd9, hs9, rfl⟩, by rw [ht]; exact hP, hD⟩, hS.F ht⟩) hS.2.2 dX12_init_201
theorem blk_perm {bs rs : List va_W} {x : va_W} (i : Nat) (hi : bs[i]? = some x) (hr : bs.eraseIdx i = rs) : bs.flatten.Perm (rs.flatten ++ x) := by
  subst hr
  induction bs generalizing i with
  | nil => simp at hi
  | cons b t ih =>
    cases i with
    | zero =>
      simp at hi
      subst hi
      show (b ++ t.flatten).Perm (t.flatten ++ b)
      exact List.perm_append_comm
    | succ j =>
      have h := ih j (by simpa using hi)
      show (b ++ t.flatten).Perm ((b ++ (t.eraseIdx j).flatten) ++ x)
      rw [List.append_assoc]
      exact List.Perm.append_left _ h
theorem blk_P {D : va_G} {cl : List vw_C} {H : Heap} {bs rs : List va_W} {x : va_W} (i : Nat) (hi : bs[i]? = some x) (hr : bs.eraseIdx i = rs) (h : va_P D cl bs.flatten H) : va_P D cl (rs.flatten ++ x) H := xP_perm h (blk_perm i hi hr)
theorem blk_D {A : Nat → Prop} {bs rs : List va_W} {x : va_W} (i : Nat) (hi : bs[i]? = some x) (hr : bs.eraseIdx i = rs) (h : va_D A bs.flatten) : va_D A (rs.flatten ++ x) := xD_perm h (blk_perm i hi hr)
theorem blk_P2 {D : va_G} {cl : List vw_C} {H : Heap} {bs rs : List va_W} {x : va_W} (i : Nat) (hi : bs[i]? = some x) (hr : bs.eraseIdx i = rs) (h : va_P D cl (rs.flatten ++ x) H) : va_P D cl bs.flatten H := xP_perm h (blk_perm i hi hr).symm
theorem blk_D2 {A : Nat → Prop} {bs rs : List va_W} {x : va_W} (i : Nat) (hi : bs[i]? = some x) (hr : bs.eraseIdx i = rs) (h : va_D A (rs.flatten ++ x)) : va_D A bs.flatten := xD_perm h (blk_perm i hi hr).symm
abbrev isC (L : Nat) (xs : Nat → Int32) (r k : Int) : Prop := 0 ≤ r ∧ r < 6 ∧ 0 ≤ k ∧ k < hgS L xs r
set_option maxHeartbeats 2000000 in
set_option maxRecDepth 20000 in
theorem c_is {z q1 q2 q3 q4 q5 q6 q7 : Nat} {fh fd fs : Nat → Int32} {ro co : Int} (r0 : -100 ≤ ro) (r1 : ro ≤ 100) (k0 : -100 ≤ co) (k1 : co ≤ 100) (hh : ∀ j : Nat, j < 6 → fh j = ki (hgS L xs j)) (sz : Nat) : Met l yX12_is (Cond.code yX12_is cX12_is 3 (some .boolean) :: xTB) ({ frames := 1, cells := 0, slots := 0, locals := 40 } : Room) (va_Pc [.ref z, .int (ki ro), .int (ki co)] (jP D cy mi zE zc ad [(z, .inr (12, [.ref b, .ref q1, .ref q2, .ref q3, .ref q4, .ref q5, .ref q6, .ref q7])), (q1, .inl (cy 0, 6, .inl fh)), (q2, .inl (cy 0, 30, .inl fd)), (q4, .inl (cy 0, 30, .inl fs))] sz)) (va_Qi (S := Unit) (fun r _ => r = ki (bi (isC L xs ro co))) (fun u t => va_P D vwCl [(z, .inr (12, [.ref b, .ref q1, .ref q2, .ref q3, .ref q4, .ref q5, .ref q6, .ref q7])), (q1, .inl (cy 0, 6, .inl fh)), (q2, .inl (cy 0, 30, .inl fd)), (q4, .inl (cy 0, 30, .inl fs))] t.heap ∧ va_D (va_A [(z, .inr (12, [.ref b, .ref q1, .ref q2, .ref q3, .ref q4, .ref q5, .ref q6, .ref q7])), (q1, .inl (cy 0, 6, .inl fh)), (q2, .inl (cy 0, 30, .inl fd)), (q4, .inl (cy 0, 30, .inl fs))] sz) [(z, .inr (12, [.ref b, .ref q1, .ref q2, .ref q3, .ref q4, .ref q5, .ref q6, .ref q7])), (q1, .inl (cy 0, 6, .inl fh)), (q2, .inl (cy 0, 30, .inl fd)), (q4, .inl (cy 0, 30, .inl fs))]) (va_A [(z, .inr (12, [.ref b, .ref q1, .ref q2, .ref q3, .ref q4, .ref q5, .ref q6, .ref q7])), (q1, .inl (cy 0, 6, .inl fh)), (q2, .inl (cy 0, 30, .inl fd)), (q4, .inl (cy 0, 30, .inl fs))] sz)) 0 0 (va_A [(z, .inr (12, [.ref b, .ref q1, .ref q2, .ref q3, .ref q4, .ref q5, .ref q6, .ref q7])), (q1, .inl (cy 0, 6, .inl fh)), (q2, .inl (cy 0, 30, .inl fd)), (q4, .inl (cy 0, 30, .inl fs))] sz) := by
  refine Met.ofW (cc := cX12_is) (maxL := 3) (ret := (some .boolean)) (by decide) rfl ?_
  intro p e s m args below meth c s₁ B hml hv
  obtain ⟨rfl, hsz, hP, hK, hD0, hN, hZ⟩ := hv
  subst hsz
  have hx := B.exec
  have hb := B.bytes
  have hr := B.returns
  have hts : ∀ w ∈ xTB, w.before ([.ref z, .int (ki ro), .int (ki co)] : List Value).toArray s = true := fun w hw => atoms_spec (ws := Cond.code yX12_is cX12_is 3 (some .boolean) :: xTB) B.pre w (List.mem_cons_of_mem _ hw)
  have hown : s.vm.findClass RX12 = some m.cls := findClass_of_methodNamed B.named
  have hlocks := B.notSynchronized
  have hl := lv_entry ([.ref z, .int (ki ro), .int (ki co)]) (n := 3) (Nat.le_of_ble_eq_true rfl)
  rw [lg_entry_eq]
  generalize (lg_sl ([.ref z, .int (ki ro), .int (ki co)]) ++ List.replicate (3 - (lg_sl ([.ref z, .int (ki ro), .int (ki co)])).length) Slot.unset).toArray = ls at hl ⊢
  have hl : lv_has ls 3 [(0, .ref z), (1, .int (ki ro)), (2, .int (ki co))] := hl
  have hD := hD0.self (sz := s.heap.size)
  generalize hAe : va_A [(z, .inr (12, [.ref b, .ref q1, .ref q2, .ref q3, .ref q4, .ref q5, .ref q6, .ref q7])), (q1, .inl (cy 0, 6, .inl fh)), (q2, .inl (cy 0, 30, .inl fd)), (q4, .inl (cy 0, 30, .inl fs))] s.heap.size = A at hD hZ ⊢
  have hA : ∀ q : Nat, s.heap.size ≤ q → A q := fun q h => by rw [← hAe]; exact Or.inr h
  have hS : va_S A s.heap s.heap [] := va_S.rf
  have hP : va_P D vwCl [(z, .inr (12, [.ref b, .ref q1, .ref q2, .ref q3, .ref q4, .ref q5, .ref q6, .ref q7])), (q1, .inl (cy 0, 6, .inl fh)), (q2, .inl (cy 0, 30, .inl fd)), (q4, .inl (cy 0, 30, .inl fs))] s.heap := hP
  refine lv_iload_n hx hb dX12_is_0 rfl (lv_at hl 1 rfl) ?_
  refine kv_if_lt (tgt := 28) hx hb (by omega) (by omega) dX12_is_1 (by decide) (fun h1 => ?_) (fun h1 => ?_)
  · refine lv_iconst (v := ki 0) hx hb dX12_is_28 rfl ?_
    exact W.zret (v := (ki 0)) hx hb hr (x_nz (Or.inl rfl)) (fun t ht hW => ⟨⟨_, (), rfl, (by show ki _ = ki (bi (isC L xs ro co)); unfold bi; first | rw [if_pos (by omega)] | rw [if_neg (by omega)]), by rw [ht]; exact hP, hD⟩, hS.F ht⟩) hS.2.2 dX12_is_29
  · refine lv_iload_n hx hb dX12_is_4 rfl (lv_at hl 1 rfl) ?_
    refine lv_bipush (v := ki 6) hx hb dX12_is_5 rfl ?_
    refine kv_icmp_ge (tgt := 28) hx hb (by omega) (by omega) (by omega) (by omega) dX12_is_7 (by decide) (fun h2 => ?_) (fun h2 => ?_)
    · refine lv_iconst (v := ki 0) hx hb dX12_is_28 rfl ?_
      exact W.zret (v := (ki 0)) hx hb hr (x_nz (Or.inl rfl)) (fun t ht hW => ⟨⟨_, (), rfl, (by show ki _ = ki (bi (isC L xs ro co)); unfold bi; first | rw [if_pos (by omega)] | rw [if_neg (by omega)]), by rw [ht]; exact hP, hD⟩, hS.F ht⟩) hS.2.2 dX12_is_29
    · refine lv_iload_n hx hb dX12_is_10 rfl (lv_at hl 2 rfl) ?_
      refine kv_if_lt (tgt := 28) hx hb (by omega) (by omega) dX12_is_11 (by decide) (fun h3 => ?_) (fun h3 => ?_)
      · refine lv_iconst (v := ki 0) hx hb dX12_is_28 rfl ?_
        exact W.zret (v := (ki 0)) hx hb hr (x_nz (Or.inl rfl)) (fun t ht hW => ⟨⟨_, (), rfl, (by show ki _ = ki (bi (isC L xs ro co)); unfold bi; first | rw [if_pos (by omega)] | rw [if_neg (by omega)]), by rw [ht]; exact hP, hD⟩, hS.F ht⟩) hS.2.2 dX12_is_29
      · have hg := hgS_b (L := L) (xs := xs) ro
        refine lv_iload_n hx hb dX12_is_14 rfl (lv_at hl 2 rfl) ?_
        refine lv_aload_n hx hb dX12_is_15 rfl (lv_at hl 0 rfl) ?_
        refine va_get (D := D) (ci := 12) (v := .ref q1) (C := RX12) (T := TX12) (N := 8) hx hb hts xin_X12 hown hK hP 0 rfl rfl 1 (by decide) (hts _ (xw_mem 803 (by decide +kernel) rfl)) (fun _ h9 => h9) rfl dX12_is_16 ?_
        refine lv_iload_n hx hb dX12_is_19 rfl (lv_at hl 1 rfl) ?_
        refine kv_ald hx hb hK hP 1 0 rfl rfl (v := hgS L xs ro) (by omega) (by omega) (by omega) (by rw [hh ro.toNat (by omega), Int.toNat_of_nonneg (by omega)]) dX12_is_20 ?_
        refine kv_icmp_ge (tgt := 28) hx hb (by omega) (by omega) (by omega) (by omega) dX12_is_21 (by decide) (fun h4 => ?_) (fun h4 => ?_)
        · refine lv_iconst (v := ki 0) hx hb dX12_is_28 rfl ?_
          exact W.zret (v := (ki 0)) hx hb hr (x_nz (Or.inl rfl)) (fun t ht hW => ⟨⟨_, (), rfl, (by show ki _ = ki (bi (isC L xs ro co)); unfold bi; first | rw [if_pos (by omega)] | rw [if_neg (by omega)]), by rw [ht]; exact hP, hD⟩, hS.F ht⟩) hS.2.2 dX12_is_29
        · refine lv_iconst (v := ki 1) hx hb dX12_is_24 rfl ?_
          refine lv_goto (tgt := 29) hx hb dX12_is_25 (by decide) ?_
          exact W.zret (v := (ki 1)) hx hb hr (x_nz (Or.inr rfl)) (fun t ht hW => ⟨⟨_, (), rfl, (by show ki _ = ki (bi (isC L xs ro co)); unfold bi; first | rw [if_pos (by omega)] | rw [if_neg (by omega)]), by rw [ht]; exact hP, hD⟩, hS.F ht⟩) hS.2.2 dX12_is_29
end C5
