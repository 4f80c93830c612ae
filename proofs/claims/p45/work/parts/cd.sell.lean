/-! part cd: the law asks sell and byTurns (made by wip/p45/gen_cd.py) -/
section LAW
variable {l : Launch} {D : va_G} {cy : Nat → ClassId} {mi zE zc : Nat} {ad z a : Nat → Nat} {b L : Nat} {xs : Nat → Int32}
variable {p : Program} {e : Env} {R : Room} {s : State} {m : MethodId} {args : Array Value} {below : List Frame} {meth : Method} {c : Code} {Q : State → Prop} {A : Nat → Prop}
variable {z0 q1 q2 q3 q4 q5 q6 q7 y : Nat} {fh fd fs : Nat → Int32} {w : va_W} {gn : (Int → Int) → Int} {η : Hy} {S : xSt} {k n : Nat}
set_option maxHeartbeats 2000000 in
set_option maxRecDepth 20000 in
theorem LS_1 (hx : p.tables.exec = Jvm.exec) (hb : c.code = cL_law) (hml : c.maxLocals = 21) (hown : s.vm.findClass RL = some m.cls) (hts : ∀ w ∈ xTB, w.before args s = true) (hK : va_K D vwCl (xtyL cy) s) (hN : jN mi s) (hZ : jZ zE zc ad A s s.heap) (hX : va_X b L xs s s.heap) (hbl : b < s.heap.size) (hbA : ¬ A b) (hNs : nS s) (hEx : xEx z A s s.heap) (hA : ∀ q, s.heap.size ≤ q → A q) (hI : xI xtb a) (hR : 100 ≤ R.frames ∧ 4000 ≤ R.locals ∧ 600000 ≤ R.cells ∧ 7302250 ≤ R.slots) (hL : L ≤ 1000) (hF : nF s) (hkn : k ≤ R.cells ∧ n ≤ R.slots) {j : Nat} {v : Int} (hj : j ≤ 20) (kk : ∀ (S1 : xSt) (g : Int → Int) (hB : BX (uh (daysN gn j η) 8 g) gn S1) (hi : iX η S1) (H : Heap) (locs : List Loc) (ls : Array Slot), lv_has ls 21 [(0, .ref b), (1, .ref (a 0)), (2, .ref z0), (3, .ref y), (17, .int (ki (j : Int))), (18, .int (ki v))] → va_P D vwCl (List.flatten [[(z0, .inr (12, [.ref b, .ref q1, .ref q2, .ref q3, .ref q4, .ref q5, .ref q6, .ref q7])), (q1, .inl (cy 0, 6, .inl fh)), (q2, .inl (cy 0, 30, .inl fd)), (q4, .inl (cy 0, 30, .inl fs))], w, xW cy xtb a S1]) H → va_D A (List.flatten [[(z0, .inr (12, [.ref b, .ref q1, .ref q2, .ref q3, .ref q4, .ref q5, .ref q6, .ref q7])), (q1, .inl (cy 0, 6, .inl fh)), (q2, .inl (cy 0, 30, .inl fd)), (q4, .inl (cy 0, 30, .inl fs))], w, xW cy xtb a S1]) → va_S A s.heap H locs → W p l e R s m args below meth c H locs k n Q (F0 m 1475 ls [])) : ∀ (d i : Nat), i + d = j → ∀ (S1 : xSt) (g : Int → Int) (hB : BX (uh (daysN gn i η) 8 g) gn S1) (hi : iX η S1) (H : Heap) (locs : List Loc) (ls : Array Slot), lv_has ls 21 [(0, .ref b), (1, .ref (a 0)), (2, .ref z0), (3, .ref y), (17, .int (ki (j : Int))), (18, .int (ki v)), (19, .int (ki (i : Int)))] → va_P D vwCl (List.flatten [[(z0, .inr (12, [.ref b, .ref q1, .ref q2, .ref q3, .ref q4, .ref q5, .ref q6, .ref q7])), (q1, .inl (cy 0, 6, .inl fh)), (q2, .inl (cy 0, 30, .inl fd)), (q4, .inl (cy 0, 30, .inl fs))], w, xW cy xtb a S1]) H → va_D A (List.flatten [[(z0, .inr (12, [.ref b, .ref q1, .ref q2, .ref q3, .ref q4, .ref q5, .ref q6, .ref q7])), (q1, .inl (cy 0, 6, .inl fh)), (q2, .inl (cy 0, 30, .inl fd)), (q4, .inl (cy 0, 30, .inl fs))], w, xW cy xtb a S1]) → va_S A s.heap H locs → W p l e R s m args below meth c H locs k n Q (F0 m 1453 ls []) := by
  intro d
  induction d with
  | zero =>
    intro i hix S1 g hB hi H locs ls hl hP hD hS
    have hix : j = i := by omega
    subst hix
    refine lv_iload hx hb dL_law_1453 (lv_at hl 6 rfl) ?_
    refine lv_iload hx hb dL_law_1455 (lv_at hl 4 rfl) ?_
    refine kv_icmp_ge_t (tgt := 1475) hx hb (by omega) (by omega) (by omega) (by omega) (by omega) dL_law_1457 (by decide) ?_
    exact kk S1 g hB hi H _ ls (lv_sub hl [0, 1, 2, 3, 4, 5] rfl) hP hD hS
  | succ d ih =>
    intro i hix S1 g hB hi H locs ls hl hP hD hS
    refine lv_iload hx hb dL_law_1453 (lv_at hl 6 rfl) ?_
    refine lv_iload hx hb dL_law_1455 (lv_at hl 4 rfl) ?_
    refine kv_icmp_ge_f (tgt := 1475) hx hb (by omega) (by omega) (by omega) (by omega) (by omega) dL_law_1457 (by decide) ?_
    refine lv_aload_n hx hb dL_law_1460 rfl (lv_at hl 1 rfl) ?_
    obtain ⟨⟨S1461, v1461⟩, hf1461, hq1461⟩ := t_day8 (S := S1) hB
    dsimp only at hq1461
    have hgb := glowS_b (day1 gn (daysN gn i η))
    obtain ⟨hv9, hB, hf9⟩ := hq1461
    subst hv9
    have hi := iX_2 hi hf9
    have hPc := blk_P (bs := ([[(z0, .inr (12, [.ref b, .ref q1, .ref q2, .ref q3, .ref q4, .ref q5, .ref q6, .ref q7])), (q1, .inl (cy 0, 6, .inl fh)), (q2, .inl (cy 0, 30, .inl fd)), (q4, .inl (cy 0, 30, .inl fs))], w, xW cy xtb a S1] : List va_W)) (rs := ([[(z0, .inr (12, [.ref b, .ref q1, .ref q2, .ref q3, .ref q4, .ref q5, .ref q6, .ref q7])), (q1, .inl (cy 0, 6, .inl fh)), (q2, .inl (cy 0, 30, .inl fd)), (q4, .inl (cy 0, 30, .inl fs))], w] : List va_W)) (x := xW cy xtb a S1) 2 rfl rfl hP
    have hDc := blk_D (bs := ([[(z0, .inr (12, [.ref b, .ref q1, .ref q2, .ref q3, .ref q4, .ref q5, .ref q6, .ref q7])), (q1, .inl (cy 0, 6, .inl fh)), (q2, .inl (cy 0, 30, .inl fd)), (q4, .inl (cy 0, 30, .inl fs))], w, xW cy xtb a S1] : List va_W)) (rs := ([[(z0, .inr (12, [.ref b, .ref q1, .ref q2, .ref q3, .ref q4, .ref q5, .ref q6, .ref q7])), (q1, .inl (cy 0, 6, .inl fh)), (q2, .inl (cy 0, 30, .inl fd)), (q4, .inl (cy 0, 30, .inl fs))], w] : List va_W)) (x := xW cy xtb a S1) 2 rfl rfl hD
    refine lw_vi hx hb hml hown hts (K_sub hK) hEx hI hPc hDc hS hA (⟨xw_mem 767 (by decide +kernel) rfl, xw_mem 30 (by decide +kernel) rfl, xw_mem 764 (by decide +kernel) rfl, by decide +kernel⟩ : xML RL 108 yX11_day cX11_day 1 (some .int) 0) (xw_mem 765 (by decide +kernel) rfl) (xw_mem 766 (by decide +kernel) rfl) (he := rfl) (by decide) rfl [] (rest := []) (c_X11_day hI hf1461 _) ⟨by omega, by omega⟩ ⟨by omega, by omega⟩ rfl hl.1 rfl (Nat.le_of_ble_eq_true (rfl)) dL_law_1461 (fun H locs hPn hS => ?_)
    have hDn := xD_st (S' := S1461) hDc
    have hP := blk_P2 (bs := ([[(z0, .inr (12, [.ref b, .ref q1, .ref q2, .ref q3, .ref q4, .ref q5, .ref q6, .ref q7])), (q1, .inl (cy 0, 6, .inl fh)), (q2, .inl (cy 0, 30, .inl fd)), (q4, .inl (cy 0, 30, .inl fs))], w, xW cy xtb a S1461] : List va_W)) (rs := ([[(z0, .inr (12, [.ref b, .ref q1, .ref q2, .ref q3, .ref q4, .ref q5, .ref q6, .ref q7])), (q1, .inl (cy 0, 6, .inl fh)), (q2, .inl (cy 0, 30, .inl fd)), (q4, .inl (cy 0, 30, .inl fs))], w] : List va_W)) (x := xW cy xtb a S1461) 2 rfl rfl hPn
    have hD := blk_D2 (bs := ([[(z0, .inr (12, [.ref b, .ref q1, .ref q2, .ref q3, .ref q4, .ref q5, .ref q6, .ref q7])), (q1, .inl (cy 0, 6, .inl fh)), (q2, .inl (cy 0, 30, .inl fd)), (q4, .inl (cy 0, 30, .inl fs))], w, xW cy xtb a S1461] : List va_W)) (rs := ([[(z0, .inr (12, [.ref b, .ref q1, .ref q2, .ref q3, .ref q4, .ref q5, .ref q6, .ref q7])), (q1, .inl (cy 0, 6, .inl fh)), (q2, .inl (cy 0, 30, .inl fd)), (q4, .inl (cy 0, 30, .inl fs))], w] : List va_W)) (x := xW cy xtb a S1461) 2 rfl rfl hDn
    refine kv_if_ge_t (tgt := 1469) hx hb (by omega) (by omega) (by omega) dL_law_1464 (by decide) ?_
    refine lv_iinc (v := ki ((i + 1 : Nat) : Int)) (lv' := [(19, .int (ki ((i + 1 : Nat) : Int))), (0, .ref b), (1, .ref (a 0)), (2, .ref z0), (3, .ref y), (17, .int (ki (j : Int))), (18, .int (ki v))]) hx hb dL_law_1469 hl (k := 6) rfl ((ki_add _ _).trans (congrArg ki (by omega))) (by decide) rfl (fun ls hl => ?_)
    refine lv_goto (tgt := 1453) hx hb dL_law_1472 (by decide) ?_
    exact ih (i + 1) (by omega) _ _ hB hi H _ ls (lv_sub hl [1, 2, 3, 4, 5, 6, 0] rfl) hP hD hS
set_option maxHeartbeats 2000000 in
set_option maxRecDepth 20000 in
theorem LW_sell (hx : p.tables.exec = Jvm.exec) (hb : c.code = cL_law) (hml : c.maxLocals = 21) (hown : s.vm.findClass RL = some m.cls) (hts : ∀ w ∈ xTB, w.before args s = true) (hK : va_K D vwCl (xtyL cy) s) (hN : jN mi s) (hZ : jZ zE zc ad A s s.heap) (hX : va_X b L xs s s.heap) (hbl : b < s.heap.size) (hbA : ¬ A b) (hNs : nS s) (hEx : xEx z A s s.heap) (hA : ∀ q, s.heap.size ≤ q → A q) (hI : xI xtb a) (hR : 100 ≤ R.frames ∧ 4000 ≤ R.locals ∧ 600000 ≤ R.cells ∧ 7302250 ≤ R.slots) (hL : L ≤ 1000) (hF : nF s) (hh : ∀ j : Nat, j < 6 → fh j = ki (hgS L xs j)) (hdm : ∀ j : Nat, j < 30 → fd j = ki (nuS L xs j 0)) (hsl : ∀ j : Nat, j < 30 → fs j = ki (nuS L xs j 3)) (hw9 : isL cy zE ad y (csI L xs 30) w) (hE : bE L xs η) (hB : BX η gn S) (hi : iX η S) (hkn : k ≤ R.cells ∧ n ≤ R.slots) (kk : ∀ (S : xSt) (hB : BX η gn S) (hi : iX η S) (H : Heap) (locs : List Loc) (ls : Array Slot), lv_has ls 21 [(0, .ref b), (1, .ref (a 0)), (2, .ref z0), (3, .ref y)] → va_P D vwCl (List.flatten [[(z0, .inr (12, [.ref b, .ref q1, .ref q2, .ref q3, .ref q4, .ref q5, .ref q6, .ref q7])), (q1, .inl (cy 0, 6, .inl fh)), (q2, .inl (cy 0, 30, .inl fd)), (q4, .inl (cy 0, 30, .inl fs))], w, xW cy xtb a S]) H → va_D A (List.flatten [[(z0, .inr (12, [.ref b, .ref q1, .ref q2, .ref q3, .ref q4, .ref q5, .ref q6, .ref q7])), (q1, .inl (cy 0, 6, .inl fh)), (q2, .inl (cy 0, 30, .inl fd)), (q4, .inl (cy 0, 30, .inl fs))], w, xW cy xtb a S]) → va_S A s.heap H locs → W p l e R s m args below meth c H locs k n Q (F0 m 1507 ls [])) {H : Heap} {locs : List Loc} {ls : Array Slot} (hl : lv_has ls 21 [(0, .ref b), (1, .ref (a 0)), (2, .ref z0), (3, .ref y)]) (hP : va_P D vwCl (List.flatten [[(z0, .inr (12, [.ref b, .ref q1, .ref q2, .ref q3, .ref q4, .ref q5, .ref q6, .ref q7])), (q1, .inl (cy 0, 6, .inl fh)), (q2, .inl (cy 0, 30, .inl fd)), (q4, .inl (cy 0, 30, .inl fs))], w, xW cy xtb a S]) H) (hD : va_D A (List.flatten [[(z0, .inr (12, [.ref b, .ref q1, .ref q2, .ref q3, .ref q4, .ref q5, .ref q6, .ref q7])), (q1, .inl (cy 0, 6, .inl fh)), (q2, .inl (cy 0, 30, .inl fd)), (q4, .inl (cy 0, 30, .inl fs))], w, xW cy xtb a S])) (hS : va_S A s.heap H locs) : W p l e R s m args below meth c H locs k n Q (F0 m 1430 ls []) := by
  obtain ⟨j, ej, hj, ev, hv⟩ := sl_0 (gn := gn) (η := η) (c := 2) 20
  have hwf := hB.1
  have hb1 := valS_b hwf
  have hb2 := valS_b (wf_days (gn := gn) hwf j)
  refine lv_aload_n hx hb dL_law_1430 rfl (lv_at hl 1 rfl) ?_
  refine lv_bipush (v := ki 20) hx hb dL_law_1431 rfl ?_
  refine lv_iconst (v := ki 2) hx hb dL_law_1433 rfl ?_
  refine lv_iconst (v := ki 0) hx hb dL_law_1434 rfl ?_
  obtain ⟨⟨S1435, v1435⟩, hf1435, hq1435⟩ := t_sell (S := S) hB (N := 20) (c := 2) (w := 0) (by omega) (by omega) (by omega) (by omega) (by omega)
  dsimp only at hq1435
  obtain ⟨hv9, hf9, hl9⟩ := hq1435
  subst hv9
  have hB := BX_q hB hf9 hl9
  have hi := iX_q hi hf9
  have hPc := blk_P (bs := ([[(z0, .inr (12, [.ref b, .ref q1, .ref q2, .ref q3, .ref q4, .ref q5, .ref q6, .ref q7])), (q1, .inl (cy 0, 6, .inl fh)), (q2, .inl (cy 0, 30, .inl fd)), (q4, .inl (cy 0, 30, .inl fs))], w, xW cy xtb a S] : List va_W)) (rs := ([[(z0, .inr (12, [.ref b, .ref q1, .ref q2, .ref q3, .ref q4, .ref q5, .ref q6, .ref q7])), (q1, .inl (cy 0, 6, .inl fh)), (q2, .inl (cy 0, 30, .inl fd)), (q4, .inl (cy 0, 30, .inl fs))], w] : List va_W)) (x := xW cy xtb a S) 2 rfl rfl hP
  have hDc := blk_D (bs := ([[(z0, .inr (12, [.ref b, .ref q1, .ref q2, .ref q3, .ref q4, .ref q5, .ref q6, .ref q7])), (q1, .inl (cy 0, 6, .inl fh)), (q2, .inl (cy 0, 30, .inl fd)), (q4, .inl (cy 0, 30, .inl fs))], w, xW cy xtb a S] : List va_W)) (rs := ([[(z0, .inr (12, [.ref b, .ref q1, .ref q2, .ref q3, .ref q4, .ref q5, .ref q6, .ref q7])), (q1, .inl (cy 0, 6, .inl fh)), (q2, .inl (cy 0, 30, .inl fd)), (q4, .inl (cy 0, 30, .inl fs))], w] : List va_W)) (x := xW cy xtb a S) 2 rfl rfl hD
  refine lw_vi hx hb hml hown hts (K_sub hK) hEx hI hPc hDc hS hA (⟨xw_mem 696 (by decide +kernel) rfl, xw_mem 30 (by decide +kernel) rfl, xw_mem 693 (by decide +kernel) rfl, by decide +kernel⟩ : xML RL 184 yX11_sell cX11_sell 4 (some .int) 3) (xw_mem 694 (by decide +kernel) rfl) (xw_mem 695 (by decide +kernel) rfl) (he := rfl) (by decide) rfl [.int (ki 20), .int (ki 2), .int (ki 0)] (rest := []) (c_X11_sell hI hf1435 _) ⟨by omega, by omega⟩ ⟨by omega, by omega⟩ rfl hl.1 rfl (Nat.le_of_ble_eq_true (rfl)) dL_law_1435 (fun H locs hPn hS => ?_)
  have hDn := xD_st (S' := S1435) hDc
  have hP := blk_P2 (bs := ([[(z0, .inr (12, [.ref b, .ref q1, .ref q2, .ref q3, .ref q4, .ref q5, .ref q6, .ref q7])), (q1, .inl (cy 0, 6, .inl fh)), (q2, .inl (cy 0, 30, .inl fd)), (q4, .inl (cy 0, 30, .inl fs))], w, xW cy xtb a S1435] : List va_W)) (rs := ([[(z0, .inr (12, [.ref b, .ref q1, .ref q2, .ref q3, .ref q4, .ref q5, .ref q6, .ref q7])), (q1, .inl (cy 0, 6, .inl fh)), (q2, .inl (cy 0, 30, .inl fd)), (q4, .inl (cy 0, 30, .inl fs))], w] : List va_W)) (x := xW cy xtb a S1435) 2 rfl rfl hPn
  have hD := blk_D2 (bs := ([[(z0, .inr (12, [.ref b, .ref q1, .ref q2, .ref q3, .ref q4, .ref q5, .ref q6, .ref q7])), (q1, .inl (cy 0, 6, .inl fh)), (q2, .inl (cy 0, 30, .inl fd)), (q4, .inl (cy 0, 30, .inl fs))], w, xW cy xtb a S1435] : List va_W)) (rs := ([[(z0, .inr (12, [.ref b, .ref q1, .ref q2, .ref q3, .ref q4, .ref q5, .ref q6, .ref q7])), (q1, .inl (cy 0, 6, .inl fh)), (q2, .inl (cy 0, 30, .inl fd)), (q4, .inl (cy 0, 30, .inl fs))], w] : List va_W)) (x := xW cy xtb a S1435) 2 rfl rfl hDn
  refine lv_istore (lv' := [(17, .int (ki ((slS gn η 2 20 1 0 (valS η)).1))), (0, .ref b), (1, .ref (a 0)), (2, .ref z0), (3, .ref y)]) hx hb dL_law_1438 hl (by decide) rfl (fun ls hl => ?_)
  refine lv_aload_n hx hb dL_law_1440 rfl (lv_at hl 2 rfl) ?_
  refine lv_bipush (v := ki 20) hx hb dL_law_1441 rfl ?_
  refine lv_iconst (v := ki 2) hx hb dL_law_1443 rfl ?_
  refine lv_iconst (v := ki 1) hx hb dL_law_1444 rfl ?_
  obtain ⟨⟨S1445, v1445⟩, hf1445, hq1445⟩ := t_sell (S := S1435) hB (N := 20) (c := 2) (w := 1) (by omega) (by omega) (by omega) (by omega) (by omega)
  dsimp only at hq1445
  obtain ⟨hv9, hf9, hl9⟩ := hq1445
  subst hv9
  have hB := BX_q hB hf9 hl9
  have hi := iX_q hi hf9
  have hPc := blk_P (bs := ([[(z0, .inr (12, [.ref b, .ref q1, .ref q2, .ref q3, .ref q4, .ref q5, .ref q6, .ref q7])), (q1, .inl (cy 0, 6, .inl fh)), (q2, .inl (cy 0, 30, .inl fd)), (q4, .inl (cy 0, 30, .inl fs))], w, xW cy xtb a S1435] : List va_W)) (rs := ([[(z0, .inr (12, [.ref b, .ref q1, .ref q2, .ref q3, .ref q4, .ref q5, .ref q6, .ref q7])), (q1, .inl (cy 0, 6, .inl fh)), (q2, .inl (cy 0, 30, .inl fd)), (q4, .inl (cy 0, 30, .inl fs))], w] : List va_W)) (x := xW cy xtb a S1435) 2 rfl rfl hP
  have hDc := blk_D (bs := ([[(z0, .inr (12, [.ref b, .ref q1, .ref q2, .ref q3, .ref q4, .ref q5, .ref q6, .ref q7])), (q1, .inl (cy 0, 6, .inl fh)), (q2, .inl (cy 0, 30, .inl fd)), (q4, .inl (cy 0, 30, .inl fs))], w, xW cy xtb a S1435] : List va_W)) (rs := ([[(z0, .inr (12, [.ref b, .ref q1, .ref q2, .ref q3, .ref q4, .ref q5, .ref q6, .ref q7])), (q1, .inl (cy 0, 6, .inl fh)), (q2, .inl (cy 0, 30, .inl fd)), (q4, .inl (cy 0, 30, .inl fs))], w] : List va_W)) (x := xW cy xtb a S1435) 2 rfl rfl hD
  refine lw_vi hx hb hml hown hts (K_sub hK) hEx hI hPc hDc hS hA (⟨xw_mem 696 (by decide +kernel) rfl, xw_mem 30 (by decide +kernel) rfl, xw_mem 693 (by decide +kernel) rfl, by decide +kernel⟩ : xML RL 184 yX11_sell cX11_sell 4 (some .int) 3) (xw_mem 694 (by decide +kernel) rfl) (xw_mem 695 (by decide +kernel) rfl) (he := rfl) (by decide) rfl [.int (ki 20), .int (ki 2), .int (ki 1)] (rest := []) (c_X11_sell hI hf1445 _) ⟨by omega, by omega⟩ ⟨by omega, by omega⟩ rfl hl.1 rfl (Nat.le_of_ble_eq_true (rfl)) dL_law_1445 (fun H locs hPn hS => ?_)
  have hDn := xD_st (S' := S1445) hDc
  have hP := blk_P2 (bs := ([[(z0, .inr (12, [.ref b, .ref q1, .ref q2, .ref q3, .ref q4, .ref q5, .ref q6, .ref q7])), (q1, .inl (cy 0, 6, .inl fh)), (q2, .inl (cy 0, 30, .inl fd)), (q4, .inl (cy 0, 30, .inl fs))], w, xW cy xtb a S1445] : List va_W)) (rs := ([[(z0, .inr (12, [.ref b, .ref q1, .ref q2, .ref q3, .ref q4, .ref q5, .ref q6, .ref q7])), (q1, .inl (cy 0, 6, .inl fh)), (q2, .inl (cy 0, 30, .inl fd)), (q4, .inl (cy 0, 30, .inl fs))], w] : List va_W)) (x := xW cy xtb a S1445) 2 rfl rfl hPn
  have hD := blk_D2 (bs := ([[(z0, .inr (12, [.ref b, .ref q1, .ref q2, .ref q3, .ref q4, .ref q5, .ref q6, .ref q7])), (q1, .inl (cy 0, 6, .inl fh)), (q2, .inl (cy 0, 30, .inl fd)), (q4, .inl (cy 0, 30, .inl fs))], w, xW cy xtb a S1445] : List va_W)) (rs := ([[(z0, .inr (12, [.ref b, .ref q1, .ref q2, .ref q3, .ref q4, .ref q5, .ref q6, .ref q7])), (q1, .inl (cy 0, 6, .inl fh)), (q2, .inl (cy 0, 30, .inl fd)), (q4, .inl (cy 0, 30, .inl fs))], w] : List va_W)) (x := xW cy xtb a S1445) 2 rfl rfl hDn
  refine lv_istore (lv' := [(18, .int (ki ((slS gn η 2 20 1 0 (valS η)).2))), (17, .int (ki ((slS gn η 2 20 1 0 (valS η)).1))), (0, .ref b), (1, .ref (a 0)), (2, .ref z0), (3, .ref y)]) hx hb dL_law_1448 hl (by decide) rfl (fun ls hl => ?_)
  rw [ej] at hl
  rw [ev] at hl
  refine lv_iconst (v := ki 0) hx hb dL_law_1450 rfl ?_
  refine lv_istore (lv' := [(19, .int (ki 0)), (18, .int (ki (valS (daysN gn j η) - 2 * (j : Int)))), (17, .int (ki (j : Int))), (0, .ref b), (1, .ref (a 0)), (2, .ref z0), (3, .ref y)]) hx hb dL_law_1451 hl (by decide) rfl (fun ls hl => ?_)
  refine LS_1 hx hb hml hown hts hK hN hZ hX hbl hbA hNs hEx hA hI hR hL hF hkn (j := j) (v := valS (daysN gn j η) - 2 * (j : Int)) hj (fun S1 g hB hi H locs ls hl hP hD hS => ?_) j 0 (by omega) _ _ (BX_8 hB) hi H _ ls (lv_sub hl [3, 4, 5, 6, 2, 1, 0] rfl) hP hD hS
  refine lv_aload_n hx hb dL_law_1475 rfl (lv_at hl 1 rfl) ?_
  obtain ⟨⟨S1476, v1476⟩, hf1476, hq1476⟩ := t_worth8 (S := S1) hB
  dsimp only at hq1476
  obtain ⟨hv9, hf9, hl9⟩ := hq1476
  subst hv9
  have hB := BX_q hB hf9 hl9
  have hi := iX_q hi hf9
  have hPc := blk_P (bs := ([[(z0, .inr (12, [.ref b, .ref q1, .ref q2, .ref q3, .ref q4, .ref q5, .ref q6, .ref q7])), (q1, .inl (cy 0, 6, .inl fh)), (q2, .inl (cy 0, 30, .inl fd)), (q4, .inl (cy 0, 30, .inl fs))], w, xW cy xtb a S1] : List va_W)) (rs := ([[(z0, .inr (12, [.ref b, .ref q1, .ref q2, .ref q3, .ref q4, .ref q5, .ref q6, .ref q7])), (q1, .inl (cy 0, 6, .inl fh)), (q2, .inl (cy 0, 30, .inl fd)), (q4, .inl (cy 0, 30, .inl fs))], w] : List va_W)) (x := xW cy xtb a S1) 2 rfl rfl hP
  have hDc := blk_D (bs := ([[(z0, .inr (12, [.ref b, .ref q1, .ref q2, .ref q3, .ref q4, .ref q5, .ref q6, .ref q7])), (q1, .inl (cy 0, 6, .inl fh)), (q2, .inl (cy 0, 30, .inl fd)), (q4, .inl (cy 0, 30, .inl fs))], w, xW cy xtb a S1] : List va_W)) (rs := ([[(z0, .inr (12, [.ref b, .ref q1, .ref q2, .ref q3, .ref q4, .ref q5, .ref q6, .ref q7])), (q1, .inl (cy 0, 6, .inl fh)), (q2, .inl (cy 0, 30, .inl fd)), (q4, .inl (cy 0, 30, .inl fs))], w] : List va_W)) (x := xW cy xtb a S1) 2 rfl rfl hD
  refine lw_vi hx hb hml hown hts (K_sub hK) hEx hI hPc hDc hS hA (⟨xw_mem 688 (by decide +kernel) rfl, xw_mem 30 (by decide +kernel) rfl, xw_mem 685 (by decide +kernel) rfl, by decide +kernel⟩ : xML RL 187 yX11_worth cX11_worth 1 (some .int) 0) (xw_mem 686 (by decide +kernel) rfl) (xw_mem 687 (by decide +kernel) rfl) (he := rfl) (by decide) rfl [] (rest := []) (c_X11_worth hI hf1476 _) ⟨by omega, by omega⟩ ⟨by omega, by omega⟩ rfl hl.1 rfl (Nat.le_of_ble_eq_true (rfl)) dL_law_1476 (fun H locs hPn hS => ?_)
  have hDn := xD_st (S' := S1476) hDc
  have hP := blk_P2 (bs := ([[(z0, .inr (12, [.ref b, .ref q1, .ref q2, .ref q3, .ref q4, .ref q5, .ref q6, .ref q7])), (q1, .inl (cy 0, 6, .inl fh)), (q2, .inl (cy 0, 30, .inl fd)), (q4, .inl (cy 0, 30, .inl fs))], w, xW cy xtb a S1476] : List va_W)) (rs := ([[(z0, .inr (12, [.ref b, .ref q1, .ref q2, .ref q3, .ref q4, .ref q5, .ref q6, .ref q7])), (q1, .inl (cy 0, 6, .inl fh)), (q2, .inl (cy 0, 30, .inl fd)), (q4, .inl (cy 0, 30, .inl fs))], w] : List va_W)) (x := xW cy xtb a S1476) 2 rfl rfl hPn
  have hD := blk_D2 (bs := ([[(z0, .inr (12, [.ref b, .ref q1, .ref q2, .ref q3, .ref q4, .ref q5, .ref q6, .ref q7])), (q1, .inl (cy 0, 6, .inl fh)), (q2, .inl (cy 0, 30, .inl fd)), (q4, .inl (cy 0, 30, .inl fs))], w, xW cy xtb a S1476] : List va_W)) (rs := ([[(z0, .inr (12, [.ref b, .ref q1, .ref q2, .ref q3, .ref q4, .ref q5, .ref q6, .ref q7])), (q1, .inl (cy 0, 6, .inl fh)), (q2, .inl (cy 0, 30, .inl fd)), (q4, .inl (cy 0, 30, .inl fs))], w] : List va_W)) (x := xW cy xtb a S1476) 2 rfl rfl hDn
  refine lv_iconst (v := ki 2) hx hb dL_law_1479 rfl ?_
  refine lv_iload hx hb dL_law_1480 (lv_at hl 4 rfl) ?_
  refine kv_mul (r := 2 * (j : Int)) hx hb rfl dL_law_1482 ?_
  refine kv_sub (r := (valS (daysN gn j η)) - (2 * (j : Int))) hx hb rfl dL_law_1483 ?_
  refine lv_iload hx hb dL_law_1484 (lv_at hl 5 rfl) ?_
  refine kv_icmp_ne_f (tgt := 1505) hx hb rfl (by omega) (by omega) (by omega) (by omega) dL_law_1486 (by decide) ?_
  refine lv_aload_n hx hb dL_law_1489 rfl (lv_at hl 1 rfl) ?_
  obtain ⟨⟨S1490, v1490⟩, hf1490, hq1490⟩ := t_back8 (S := S1476) hB hi hwf (days_2 j) (days_10 j)
  dsimp only at hq1490
  obtain ⟨hv9, hB, hi⟩ := hq1490
  subst hv9
  rw [hE.2.2.2] at hf1490
  have hPc := blk_P (bs := ([[(z0, .inr (12, [.ref b, .ref q1, .ref q2, .ref q3, .ref q4, .ref q5, .ref q6, .ref q7])), (q1, .inl (cy 0, 6, .inl fh)), (q2, .inl (cy 0, 30, .inl fd)), (q4, .inl (cy 0, 30, .inl fs))], w, xW cy xtb a S1476] : List va_W)) (rs := ([[(z0, .inr (12, [.ref b, .ref q1, .ref q2, .ref q3, .ref q4, .ref q5, .ref q6, .ref q7])), (q1, .inl (cy 0, 6, .inl fh)), (q2, .inl (cy 0, 30, .inl fd)), (q4, .inl (cy 0, 30, .inl fs))], w] : List va_W)) (x := xW cy xtb a S1476) 2 rfl rfl hP
  have hDc := blk_D (bs := ([[(z0, .inr (12, [.ref b, .ref q1, .ref q2, .ref q3, .ref q4, .ref q5, .ref q6, .ref q7])), (q1, .inl (cy 0, 6, .inl fh)), (q2, .inl (cy 0, 30, .inl fd)), (q4, .inl (cy 0, 30, .inl fs))], w, xW cy xtb a S1476] : List va_W)) (rs := ([[(z0, .inr (12, [.ref b, .ref q1, .ref q2, .ref q3, .ref q4, .ref q5, .ref q6, .ref q7])), (q1, .inl (cy 0, 6, .inl fh)), (q2, .inl (cy 0, 30, .inl fd)), (q4, .inl (cy 0, 30, .inl fs))], w] : List va_W)) (x := xW cy xtb a S1476) 2 rfl rfl hD
  refine lw_vi hx hb hml hown hts (K_sub hK) hEx hI hPc hDc hS hA (⟨xw_mem 781 (by decide +kernel) rfl, xw_mem 30 (by decide +kernel) rfl, xw_mem 778 (by decide +kernel) rfl, by decide +kernel⟩ : xML RL 114 yX11_back cX11_back 1 (some .int) 0) (xw_mem 779 (by decide +kernel) rfl) (xw_mem 780 (by decide +kernel) rfl) (he := rfl) (by decide) rfl [] (rest := []) (c_X11_back hI hf1490 _) ⟨by omega, by omega⟩ ⟨by omega, by omega⟩ rfl hl.1 rfl (Nat.le_of_ble_eq_true (rfl)) dL_law_1490 (fun H locs hPn hS => ?_)
  have hDn := xD_st (S' := S1490) hDc
  have hP := blk_P2 (bs := ([[(z0, .inr (12, [.ref b, .ref q1, .ref q2, .ref q3, .ref q4, .ref q5, .ref q6, .ref q7])), (q1, .inl (cy 0, 6, .inl fh)), (q2, .inl (cy 0, 30, .inl fd)), (q4, .inl (cy 0, 30, .inl fs))], w, xW cy xtb a S1490] : List va_W)) (rs := ([[(z0, .inr (12, [.ref b, .ref q1, .ref q2, .ref q3, .ref q4, .ref q5, .ref q6, .ref q7])), (q1, .inl (cy 0, 6, .inl fh)), (q2, .inl (cy 0, 30, .inl fd)), (q4, .inl (cy 0, 30, .inl fs))], w] : List va_W)) (x := xW cy xtb a S1490) 2 rfl rfl hPn
  have hD := blk_D2 (bs := ([[(z0, .inr (12, [.ref b, .ref q1, .ref q2, .ref q3, .ref q4, .ref q5, .ref q6, .ref q7])), (q1, .inl (cy 0, 6, .inl fh)), (q2, .inl (cy 0, 30, .inl fd)), (q4, .inl (cy 0, 30, .inl fs))], w, xW cy xtb a S1490] : List va_W)) (rs := ([[(z0, .inr (12, [.ref b, .ref q1, .ref q2, .ref q3, .ref q4, .ref q5, .ref q6, .ref q7])), (q1, .inl (cy 0, 6, .inl fh)), (q2, .inl (cy 0, 30, .inl fd)), (q4, .inl (cy 0, 30, .inl fs))], w] : List va_W)) (x := xW cy xtb a S1490) 2 rfl rfl hDn
  refine kv_if_ne_f (tgt := 1505) hx hb (by omega) (by omega) (by omega) dL_law_1493 (by decide) ?_
  refine lv_aload_n hx hb dL_law_1496 rfl (lv_at hl 1 rfl) ?_
  obtain ⟨⟨S1497, v1497⟩, hf1497, hq1497⟩ := t_worth (S := S1490) hB
  dsimp only at hq1497
  obtain ⟨hv9, hf9, hl9⟩ := hq1497
  subst hv9
  have hB := BX_q hB hf9 hl9
  have hi := iX_q hi hf9
  have hPc := blk_P (bs := ([[(z0, .inr (12, [.ref b, .ref q1, .ref q2, .ref q3, .ref q4, .ref q5, .ref q6, .ref q7])), (q1, .inl (cy 0, 6, .inl fh)), (q2, .inl (cy 0, 30, .inl fd)), (q4, .inl (cy 0, 30, .inl fs))], w, xW cy xtb a S1490] : List va_W)) (rs := ([[(z0, .inr (12, [.ref b, .ref q1, .ref q2, .ref q3, .ref q4, .ref q5, .ref q6, .ref q7])), (q1, .inl (cy 0, 6, .inl fh)), (q2, .inl (cy 0, 30, .inl fd)), (q4, .inl (cy 0, 30, .inl fs))], w] : List va_W)) (x := xW cy xtb a S1490) 2 rfl rfl hP
  have hDc := blk_D (bs := ([[(z0, .inr (12, [.ref b, .ref q1, .ref q2, .ref q3, .ref q4, .ref q5, .ref q6, .ref q7])), (q1, .inl (cy 0, 6, .inl fh)), (q2, .inl (cy 0, 30, .inl fd)), (q4, .inl (cy 0, 30, .inl fs))], w, xW cy xtb a S1490] : List va_W)) (rs := ([[(z0, .inr (12, [.ref b, .ref q1, .ref q2, .ref q3, .ref q4, .ref q5, .ref q6, .ref q7])), (q1, .inl (cy 0, 6, .inl fh)), (q2, .inl (cy 0, 30, .inl fd)), (q4, .inl (cy 0, 30, .inl fs))], w] : List va_W)) (x := xW cy xtb a S1490) 2 rfl rfl hD
  refine lw_vi hx hb hml hown hts (K_sub hK) hEx hI hPc hDc hS hA (⟨xw_mem 688 (by decide +kernel) rfl, xw_mem 30 (by decide +kernel) rfl, xw_mem 685 (by decide +kernel) rfl, by decide +kernel⟩ : xML RL 187 yX11_worth cX11_worth 1 (some .int) 0) (xw_mem 686 (by decide +kernel) rfl) (xw_mem 687 (by decide +kernel) rfl) (he := rfl) (by decide) rfl [] (rest := []) (c_X11_worth hI hf1497 _) ⟨by omega, by omega⟩ ⟨by omega, by omega⟩ rfl hl.1 rfl (Nat.le_of_ble_eq_true (rfl)) dL_law_1497 (fun H locs hPn hS => ?_)
  have hDn := xD_st (S' := S1497) hDc
  have hP := blk_P2 (bs := ([[(z0, .inr (12, [.ref b, .ref q1, .ref q2, .ref q3, .ref q4, .ref q5, .ref q6, .ref q7])), (q1, .inl (cy 0, 6, .inl fh)), (q2, .inl (cy 0, 30, .inl fd)), (q4, .inl (cy 0, 30, .inl fs))], w, xW cy xtb a S1497] : List va_W)) (rs := ([[(z0, .inr (12, [.ref b, .ref q1, .ref q2, .ref q3, .ref q4, .ref q5, .ref q6, .ref q7])), (q1, .inl (cy 0, 6, .inl fh)), (q2, .inl (cy 0, 30, .inl fd)), (q4, .inl (cy 0, 30, .inl fs))], w] : List va_W)) (x := xW cy xtb a S1497) 2 rfl rfl hPn
  have hD := blk_D2 (bs := ([[(z0, .inr (12, [.ref b, .ref q1, .ref q2, .ref q3, .ref q4, .ref q5, .ref q6, .ref q7])), (q1, .inl (cy 0, 6, .inl fh)), (q2, .inl (cy 0, 30, .inl fd)), (q4, .inl (cy 0, 30, .inl fs))], w, xW cy xtb a S1497] : List va_W)) (rs := ([[(z0, .inr (12, [.ref b, .ref q1, .ref q2, .ref q3, .ref q4, .ref q5, .ref q6, .ref q7])), (q1, .inl (cy 0, 6, .inl fh)), (q2, .inl (cy 0, 30, .inl fd)), (q4, .inl (cy 0, 30, .inl fs))], w] : List va_W)) (x := xW cy xtb a S1497) 2 rfl rfl hDn
  refine lv_iload hx hb dL_law_1500 (lv_at hl 5 rfl) ?_
  refine kv_icmp_le_t (tgt := 1507) hx hb (by omega) (by omega) (by omega) (by omega) (by omega) dL_law_1502 (by decide) ?_
  exact kk S1497 hB hi H _ ls (lv_sub hl [0, 1, 2, 3] rfl) hP hD hS
theorem fsc_in {f : Nat → Int} {v v0 : Int} (e : v = foT f 0 v0 6) (h : v0 ≠ v) : ∃ c : Nat, c < 6 ∧ fsc f v = c ∧ f c = v := by
  rcases fo_ex (f := f) (k := 0) (v0 := v0) 6 with q | ⟨i, hi, q⟩
  · exact absurd (q.symm.trans e.symm) h
  · rw [← e] at q
    unfold fsc
    by_cases h0 : f 0 = v
    · exact ⟨0, by omega, if_pos h0, h0⟩
    by_cases h1 : f 1 = v
    · exact ⟨1, by omega, by rw [if_neg h0, if_pos h1]; rfl, h1⟩
    by_cases h2 : f 2 = v
    · exact ⟨2, by omega, by rw [if_neg h0, if_neg h1, if_pos h2]; rfl, h2⟩
    by_cases h3 : f 3 = v
    · exact ⟨3, by omega, by rw [if_neg h0, if_neg h1, if_neg h2, if_pos h3]; rfl, h3⟩
    by_cases h4 : f 4 = v
    · exact ⟨4, by omega, by rw [if_neg h0, if_neg h1, if_neg h2, if_neg h3, if_pos h4]; rfl, h4⟩
    · refine ⟨5, by omega, by rw [if_neg h0, if_neg h1, if_neg h2, if_neg h3, if_neg h4]; rfl, ?_⟩
      have hi6 : i = 0 ∨ i = 1 ∨ i = 2 ∨ i = 3 ∨ i = 4 ∨ i = 5 := by omega
      rcases hi6 with rfl | rfl | rfl | rfl | rfl | rfl
      · exact absurd q h0
      · exact absurd q h1
      · exact absurd q h2
      · exact absurd q h3
      · exact absurd q h4
      · exact q
def btV (gn : (Int → Int) → Int) (η : Hy) (c : Nat) : Int := hhS (daysN gn 4 (turS c η))
theorem bt_0 : ∃ t c : Int, btA gn 0 4 η 0 = t ∧ btA gn 0 4 η 1 = c ∧ t ≤ hhS (daysN gn 4 η) ∧ (0 ≤ t → (c = 6 ∧ hhS (daysN gn 4 η) = t) ∨ ∃ j : Nat, j < 6 ∧ c = j ∧ btV gn η j = t) ∧ (t < 0 → c = t) ∧ (ncS η → t = -2) ∧ (wf η → ¬ ncS η → 0 ≤ t) ∧ (wf η → -2 ≤ t ∧ t ≤ 99) := by
  have hf : ∀ c : Nat, c < 6 → bst gn 4 0 1 (deS 0 c η) = btV gn η c := fun c hc => by
    show hhS (daysN gn 4 (deS 0 (c : Int) η)) = hhS (daysN gn 4 (turS c η))
    unfold deS
    rw [if_neg (by omega), if_neg (by omega)]
  have e1 : bst gn 4 1 0 η = foT (fun c => bst gn 4 0 1 (deS 0 c η)) 0 (hhS (daysN gn 4 η)) 6 := rfl
  have e0 : btA gn 0 4 η 0 = bst gn 4 1 0 η := if_pos rfl
  have e2 : btA gn 0 4 η 1 = if 0 ≤ bst gn 4 1 0 η then (if hhS (daysN gn 4 η) = bst gn 4 1 0 η then 6 else fsc (fun c => bst gn 4 0 1 (deS 0 c η)) (bst gn 4 1 0 η)) else bst gn 4 1 0 η := if_neg (by decide)
  refine ⟨_, _, e0, e2, by rw [e1]; exact fo_l0 6, fun h => ?_, fun h => if_neg (by omega), fun h => bst_nc 1 0 η h, fun hw h => bst_nn 1 0 η hw h, fun hw => bst_b 1 0 η hw⟩
  rw [if_pos h]
  by_cases q : hhS (daysN gn 4 η) = bst gn 4 1 0 η
  · exact Or.inl ⟨if_pos q, q⟩
  · rw [if_neg q]
    obtain ⟨c, hc, e3, e4⟩ := fsc_in e1 q
    exact Or.inr ⟨c, hc, e3, by rw [← hf c hc]; exact e4⟩
theorem cs_nc (hE : bE L xs η) : ((csI L xs 30).length = 0) ↔ ncS η := by
  constructor
  · intro h q q0 q1 hq
    obtain ⟨j, rfl⟩ : ∃ j : Nat, q = j := ⟨q.toNat, by omega⟩
    have hm : j ∈ csI L xs 30 := by
      unfold csI
      rw [List.mem_filter]
      refine ⟨List.mem_range.mpr (by omega), ?_⟩
      unfold csP
      rw [hE.1 _ (by omega) (by omega)] at hq
      exact decide_eq_true hq
    rw [List.length_eq_zero_iff.mp h] at hm
    cases hm
  · intro h
    rw [List.length_eq_zero_iff]
    unfold csI
    rw [List.filter_eq_nil_iff]
    intro j hj
    have hj := List.mem_range.mp hj
    unfold csP
    intro q
    have q := of_decide_eq_true q
    rw [← hE.1 _ (by omega) (by omega)] at q
    exact h j (by omega) (by omega) q
theorem cs_has (hE : bE L xs η) {j : Nat} (h : j ∈ csI L xs 30) : hasS η j := by
  unfold csI at h
  rw [List.mem_filter] at h
  have h1 := List.mem_range.mp h.1
  have h2 := h.2
  unfold csP at h2
  have h2 := of_decide_eq_true h2
  refine ⟨by omega, by omega, ?_⟩
  rw [hE.1 _ (by omega) (by omega)]
  exact h2
theorem cs_mem (hE : bE L xs η) {j : Nat} (h : hasS η j) : j ∈ csI L xs 30 := by
  obtain ⟨h0, h1, h2⟩ := h
  unfold csI
  rw [List.mem_filter]
  refine ⟨List.mem_range.mpr (by omega), ?_⟩
  unfold csP
  rw [hE.1 _ (by omega) (by omega)] at h2
  exact decide_eq_true h2
end LAW
