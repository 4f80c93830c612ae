/-! part ce: the law asks byTurns (made by wip/p45/gen_ce.py) -/
section LAW
variable {l : Launch} {D : va_G} {cy : Nat → ClassId} {mi zE zc : Nat} {ad z a : Nat → Nat} {b L : Nat} {xs : Nat → Int32}
variable {p : Program} {e : Env} {R : Room} {s : State} {m : MethodId} {args : Array Value} {below : List Frame} {meth : Method} {c : Code} {Q : State → Prop} {A : Nat → Prop}
variable {z0 q1 q2 q3 q4 q5 q6 q7 y : Nat} {fh fd fs : Nat → Int32} {w : va_W} {gn : (Int → Int) → Int} {η : Hy} {S : xSt} {k n : Nat}
set_option maxHeartbeats 2000000 in
set_option maxRecDepth 20000 in
theorem LW_turns (hx : p.tables.exec = Jvm.exec) (hb : c.code = cL_law) (hml : c.maxLocals = 21) (hown : s.vm.findClass RL = some m.cls) (hts : ∀ w ∈ xTB, w.before args s = true) (hK : va_K D vwCl (xtyL cy) s) (hN : jN mi s) (hZ : jZ zE zc ad A s s.heap) (hX : va_X b L xs s s.heap) (hbl : b < s.heap.size) (hbA : ¬ A b) (hNs : nS s) (hEx : xEx z A s s.heap) (hA : ∀ q, s.heap.size ≤ q → A q) (hI : xI xtb a) (hR : 100 ≤ R.frames ∧ 4000 ≤ R.locals ∧ 600000 ≤ R.cells ∧ 7302250 ≤ R.slots) (hL : L ≤ 1000) (hF : nF s) (hh : ∀ j : Nat, j < 6 → fh j = ki (hgS L xs j)) (hdm : ∀ j : Nat, j < 30 → fd j = ki (nuS L xs j 0)) (hsl : ∀ j : Nat, j < 30 → fs j = ki (nuS L xs j 3)) (hw9 : isL cy zE ad y (csI L xs 30) w) (hE : bE L xs η) (hB : BX η gn S) (hi : iX η S) (hkn : k ≤ R.cells ∧ n ≤ R.slots) (kk : ∀ (S : xSt) (hB : BX η gn S) (hi : iX η S) (H : Heap) (locs : List Loc) (ls : Array Slot), lv_has ls 21 [(0, .ref b), (1, .ref (a 0)), (2, .ref z0), (3, .ref y)] → va_P D vwCl (List.flatten [[(z0, .inr (12, [.ref b, .ref q1, .ref q2, .ref q3, .ref q4, .ref q5, .ref q6, .ref q7])), (q1, .inl (cy 0, 6, .inl fh)), (q2, .inl (cy 0, 30, .inl fd)), (q4, .inl (cy 0, 30, .inl fs))], w, xW cy xtb a S]) H → va_D A (List.flatten [[(z0, .inr (12, [.ref b, .ref q1, .ref q2, .ref q3, .ref q4, .ref q5, .ref q6, .ref q7])), (q1, .inl (cy 0, 6, .inl fh)), (q2, .inl (cy 0, 30, .inl fd)), (q4, .inl (cy 0, 30, .inl fs))], w, xW cy xtb a S]) → va_S A s.heap H locs → W p l e R s m args below meth c H locs k n Q (F0 m 1596 ls [])) {H : Heap} {locs : List Loc} {ls : Array Slot} (hl : lv_has ls 21 [(0, .ref b), (1, .ref (a 0)), (2, .ref z0), (3, .ref y)]) (hP : va_P D vwCl (List.flatten [[(z0, .inr (12, [.ref b, .ref q1, .ref q2, .ref q3, .ref q4, .ref q5, .ref q6, .ref q7])), (q1, .inl (cy 0, 6, .inl fh)), (q2, .inl (cy 0, 30, .inl fd)), (q4, .inl (cy 0, 30, .inl fs))], w, xW cy xtb a S]) H) (hD : va_D A (List.flatten [[(z0, .inr (12, [.ref b, .ref q1, .ref q2, .ref q3, .ref q4, .ref q5, .ref q6, .ref q7])), (q1, .inl (cy 0, 6, .inl fh)), (q2, .inl (cy 0, 30, .inl fd)), (q4, .inl (cy 0, 30, .inl fs))], w, xW cy xtb a S])) (hS : va_S A s.heap H locs) : W p l e R s m args below meth c H locs k n Q (F0 m 1507 ls []) := by
  have hwf := hB.1
  obtain ⟨t, co, e0, e1, hle, hc9, hcn, hnc, hnn, htb⟩ := bt_0 (gn := gn) (η := η)
  have htb := htb hwf
  have hhb := hhS_b (wf_days (gn := gn) hwf 4)
  have hcb : -2 ≤ co ∧ co ≤ 6 := by
    by_cases q : t < 0
    · have := hcn q; omega
    · rcases hc9 (by omega) with ⟨h, _⟩ | ⟨j, h, h2, _⟩ <;> omega
  refine lv_aload_n hx hb dL_law_1507 rfl (lv_at hl 1 rfl) ?_
  refine lv_bipush (v := ki 14) hx hb dL_law_1508 rfl ?_
  refine lv_iconst (v := ki 0) hx hb dL_law_1510 rfl ?_
  obtain ⟨⟨S1511, v1511⟩, hf1511, hq1511⟩ := t_byTurns (S := S) hB (w := 0) (by omega) (by omega)
  dsimp only at hq1511
  obtain ⟨hv9, hf9, hl9⟩ := hq1511
  subst hv9
  have hB := BX_q hB hf9 hl9
  have hi := iX_q hi hf9
  rw [e0] at hf1511
  have hPc := blk_P (bs := ([[(z0, .inr (12, [.ref b, .ref q1, .ref q2, .ref q3, .ref q4, .ref q5, .ref q6, .ref q7])), (q1, .inl (cy 0, 6, .inl fh)), (q2, .inl (cy 0, 30, .inl fd)), (q4, .inl (cy 0, 30, .inl fs))], w, xW cy xtb a S] : List va_W)) (rs := ([[(z0, .inr (12, [.ref b, .ref q1, .ref q2, .ref q3, .ref q4, .ref q5, .ref q6, .ref q7])), (q1, .inl (cy 0, 6, .inl fh)), (q2, .inl (cy 0, 30, .inl fd)), (q4, .inl (cy 0, 30, .inl fs))], w] : List va_W)) (x := xW cy xtb a S) 2 rfl rfl hP
  have hDc := blk_D (bs := ([[(z0, .inr (12, [.ref b, .ref q1, .ref q2, .ref q3, .ref q4, .ref q5, .ref q6, .ref q7])), (q1, .inl (cy 0, 6, .inl fh)), (q2, .inl (cy 0, 30, .inl fd)), (q4, .inl (cy 0, 30, .inl fs))], w, xW cy xtb a S] : List va_W)) (rs := ([[(z0, .inr (12, [.ref b, .ref q1, .ref q2, .ref q3, .ref q4, .ref q5, .ref q6, .ref q7])), (q1, .inl (cy 0, 6, .inl fh)), (q2, .inl (cy 0, 30, .inl fd)), (q4, .inl (cy 0, 30, .inl fs))], w] : List va_W)) (x := xW cy xtb a S) 2 rfl rfl hD
  refine lw_vi hx hb hml hown hts (K_sub hK) hEx hI hPc hDc hS hA (⟨xw_mem 732 (by decide +kernel) rfl, xw_mem 30 (by decide +kernel) rfl, xw_mem 729 (by decide +kernel) rfl, by decide +kernel⟩ : xML RL 190 yX11_byTurns cX11_byTurns 3 (some .int) 2) (xw_mem 730 (by decide +kernel) rfl) (xw_mem 731 (by decide +kernel) rfl) (he := rfl) (by decide) rfl [.int (ki 14), .int (ki 0)] (rest := []) (c_X11_byTurns hI hf1511 _) ⟨by omega, by omega⟩ ⟨by omega, by omega⟩ rfl hl.1 rfl (Nat.le_of_ble_eq_true (rfl)) dL_law_1511 (fun H locs hPn hS => ?_)
  have hDn := xD_st (S' := S1511) hDc
  have hP := blk_P2 (bs := ([[(z0, .inr (12, [.ref b, .ref q1, .ref q2, .ref q3, .ref q4, .ref q5, .ref q6, .ref q7])), (q1, .inl (cy 0, 6, .inl fh)), (q2, .inl (cy 0, 30, .inl fd)), (q4, .inl (cy 0, 30, .inl fs))], w, xW cy xtb a S1511] : List va_W)) (rs := ([[(z0, .inr (12, [.ref b, .ref q1, .ref q2, .ref q3, .ref q4, .ref q5, .ref q6, .ref q7])), (q1, .inl (cy 0, 6, .inl fh)), (q2, .inl (cy 0, 30, .inl fd)), (q4, .inl (cy 0, 30, .inl fs))], w] : List va_W)) (x := xW cy xtb a S1511) 2 rfl rfl hPn
  have hD := blk_D2 (bs := ([[(z0, .inr (12, [.ref b, .ref q1, .ref q2, .ref q3, .ref q4, .ref q5, .ref q6, .ref q7])), (q1, .inl (cy 0, 6, .inl fh)), (q2, .inl (cy 0, 30, .inl fd)), (q4, .inl (cy 0, 30, .inl fs))], w, xW cy xtb a S1511] : List va_W)) (rs := ([[(z0, .inr (12, [.ref b, .ref q1, .ref q2, .ref q3, .ref q4, .ref q5, .ref q6, .ref q7])), (q1, .inl (cy 0, 6, .inl fh)), (q2, .inl (cy 0, 30, .inl fd)), (q4, .inl (cy 0, 30, .inl fs))], w] : List va_W)) (x := xW cy xtb a S1511) 2 rfl rfl hDn
  refine lv_istore (lv' := [(19, .int (ki t)), (0, .ref b), (1, .ref (a 0)), (2, .ref z0), (3, .ref y)]) hx hb dL_law_1514 hl (by decide) rfl (fun ls hl => ?_)
  refine lv_aload_n hx hb dL_law_1516 rfl (lv_at hl 2 rfl) ?_
  refine lv_bipush (v := ki 14) hx hb dL_law_1517 rfl ?_
  refine lv_iconst (v := ki 1) hx hb dL_law_1519 rfl ?_
  obtain ⟨⟨S1520, v1520⟩, hf1520, hq1520⟩ := t_byTurns (S := S1511) hB (w := 1) (by omega) (by omega)
  dsimp only at hq1520
  obtain ⟨hv9, hf9, hl9⟩ := hq1520
  subst hv9
  have hB := BX_q hB hf9 hl9
  have hi := iX_q hi hf9
  rw [e1] at hf1520
  have hPc := blk_P (bs := ([[(z0, .inr (12, [.ref b, .ref q1, .ref q2, .ref q3, .ref q4, .ref q5, .ref q6, .ref q7])), (q1, .inl (cy 0, 6, .inl fh)), (q2, .inl (cy 0, 30, .inl fd)), (q4, .inl (cy 0, 30, .inl fs))], w, xW cy xtb a S1511] : List va_W)) (rs := ([[(z0, .inr (12, [.ref b, .ref q1, .ref q2, .ref q3, .ref q4, .ref q5, .ref q6, .ref q7])), (q1, .inl (cy 0, 6, .inl fh)), (q2, .inl (cy 0, 30, .inl fd)), (q4, .inl (cy 0, 30, .inl fs))], w] : List va_W)) (x := xW cy xtb a S1511) 2 rfl rfl hP
  have hDc := blk_D (bs := ([[(z0, .inr (12, [.ref b, .ref q1, .ref q2, .ref q3, .ref q4, .ref q5, .ref q6, .ref q7])), (q1, .inl (cy 0, 6, .inl fh)), (q2, .inl (cy 0, 30, .inl fd)), (q4, .inl (cy 0, 30, .inl fs))], w, xW cy xtb a S1511] : List va_W)) (rs := ([[(z0, .inr (12, [.ref b, .ref q1, .ref q2, .ref q3, .ref q4, .ref q5, .ref q6, .ref q7])), (q1, .inl (cy 0, 6, .inl fh)), (q2, .inl (cy 0, 30, .inl fd)), (q4, .inl (cy 0, 30, .inl fs))], w] : List va_W)) (x := xW cy xtb a S1511) 2 rfl rfl hD
  refine lw_vi hx hb hml hown hts (K_sub hK) hEx hI hPc hDc hS hA (⟨xw_mem 732 (by decide +kernel) rfl, xw_mem 30 (by decide +kernel) rfl, xw_mem 729 (by decide +kernel) rfl, by decide +kernel⟩ : xML RL 190 yX11_byTurns cX11_byTurns 3 (some .int) 2) (xw_mem 730 (by decide +kernel) rfl) (xw_mem 731 (by decide +kernel) rfl) (he := rfl) (by decide) rfl [.int (ki 14), .int (ki 1)] (rest := []) (c_X11_byTurns hI hf1520 _) ⟨by omega, by omega⟩ ⟨by omega, by omega⟩ rfl hl.1 rfl (Nat.le_of_ble_eq_true (rfl)) dL_law_1520 (fun H locs hPn hS => ?_)
  have hDn := xD_st (S' := S1520) hDc
  have hP := blk_P2 (bs := ([[(z0, .inr (12, [.ref b, .ref q1, .ref q2, .ref q3, .ref q4, .ref q5, .ref q6, .ref q7])), (q1, .inl (cy 0, 6, .inl fh)), (q2, .inl (cy 0, 30, .inl fd)), (q4, .inl (cy 0, 30, .inl fs))], w, xW cy xtb a S1520] : List va_W)) (rs := ([[(z0, .inr (12, [.ref b, .ref q1, .ref q2, .ref q3, .ref q4, .ref q5, .ref q6, .ref q7])), (q1, .inl (cy 0, 6, .inl fh)), (q2, .inl (cy 0, 30, .inl fd)), (q4, .inl (cy 0, 30, .inl fs))], w] : List va_W)) (x := xW cy xtb a S1520) 2 rfl rfl hPn
  have hD := blk_D2 (bs := ([[(z0, .inr (12, [.ref b, .ref q1, .ref q2, .ref q3, .ref q4, .ref q5, .ref q6, .ref q7])), (q1, .inl (cy 0, 6, .inl fh)), (q2, .inl (cy 0, 30, .inl fd)), (q4, .inl (cy 0, 30, .inl fs))], w, xW cy xtb a S1520] : List va_W)) (rs := ([[(z0, .inr (12, [.ref b, .ref q1, .ref q2, .ref q3, .ref q4, .ref q5, .ref q6, .ref q7])), (q1, .inl (cy 0, 6, .inl fh)), (q2, .inl (cy 0, 30, .inl fd)), (q4, .inl (cy 0, 30, .inl fs))], w] : List va_W)) (x := xW cy xtb a S1520) 2 rfl rfl hDn
  refine lv_istore (lv' := [(20, .int (ki co)), (19, .int (ki t)), (0, .ref b), (1, .ref (a 0)), (2, .ref z0), (3, .ref y)]) hx hb dL_law_1523 hl (by decide) rfl (fun ls hl => ?_)
  refine lv_iload hx hb dL_law_1525 (lv_at hl 1 rfl) ?_
  refine kv_if_ge (tgt := 1534) hx hb (by omega) (by omega) dL_law_1527 (by decide) (fun ht0 => ?_) (fun ht0 => ?_)
  · have hne : ¬ ((csI L xs 30).length = 0) := fun q => by have := hnc ((cs_nc hE).mp q); omega
    refine lv_iconst (v := ki 0) hx hb dL_law_1534 rfl ?_
    refine lv_aload_n hx hb dL_law_1535 rfl (lv_at hl 5 rfl) ?_
    have hPc := blk_P (bs := ([[(z0, .inr (12, [.ref b, .ref q1, .ref q2, .ref q3, .ref q4, .ref q5, .ref q6, .ref q7])), (q1, .inl (cy 0, 6, .inl fh)), (q2, .inl (cy 0, 30, .inl fd)), (q4, .inl (cy 0, 30, .inl fs))], w, xW cy xtb a S1520] : List va_W)) (rs := ([[(z0, .inr (12, [.ref b, .ref q1, .ref q2, .ref q3, .ref q4, .ref q5, .ref q6, .ref q7])), (q1, .inl (cy 0, 6, .inl fh)), (q2, .inl (cy 0, 30, .inl fd)), (q4, .inl (cy 0, 30, .inl fs))], xW cy xtb a S1520] : List va_W)) (x := w) 1 rfl rfl hP
    have hDc := blk_D (bs := ([[(z0, .inr (12, [.ref b, .ref q1, .ref q2, .ref q3, .ref q4, .ref q5, .ref q6, .ref q7])), (q1, .inl (cy 0, 6, .inl fh)), (q2, .inl (cy 0, 30, .inl fd)), (q4, .inl (cy 0, 30, .inl fs))], w, xW cy xtb a S1520] : List va_W)) (rs := ([[(z0, .inr (12, [.ref b, .ref q1, .ref q2, .ref q3, .ref q4, .ref q5, .ref q6, .ref q7])), (q1, .inl (cy 0, 6, .inl fh)), (q2, .inl (cy 0, 30, .inl fd)), (q4, .inl (cy 0, 30, .inl fs))], xW cy xtb a S1520] : List va_W)) (x := w) 1 rfl rfl hD
    refine lk_isEmpty hx hb hml hown hts hK hN hZ hS hA hl.1 (Nat.le_of_ble_eq_true (rfl)) (rest := [.int (ki 0)]) (⟨xw_mem 1071 (by decide +kernel) rfl, xw_mem 46 (by decide +kernel) rfl, xw_mem 1068 (by decide +kernel) rfl, by decide +kernel⟩ : xML RL 87 yJx4a65c_isEmpty_aae02 cJx4a65c_isEmpty_aae02 1 (some .boolean) 0) hw9 hPc hDc ⟨by omega, by omega⟩ ⟨by omega, by omega⟩ dL_law_1536 (fun  H locs hPn hDn hS => ?_)
    have hP := blk_P2 (bs := ([[(z0, .inr (12, [.ref b, .ref q1, .ref q2, .ref q3, .ref q4, .ref q5, .ref q6, .ref q7])), (q1, .inl (cy 0, 6, .inl fh)), (q2, .inl (cy 0, 30, .inl fd)), (q4, .inl (cy 0, 30, .inl fs))], w, xW cy xtb a S1520] : List va_W)) (rs := ([[(z0, .inr (12, [.ref b, .ref q1, .ref q2, .ref q3, .ref q4, .ref q5, .ref q6, .ref q7])), (q1, .inl (cy 0, 6, .inl fh)), (q2, .inl (cy 0, 30, .inl fd)), (q4, .inl (cy 0, 30, .inl fs))], xW cy xtb a S1520] : List va_W)) (x := w) 1 rfl rfl hPn
    have hD := blk_D2 (bs := ([[(z0, .inr (12, [.ref b, .ref q1, .ref q2, .ref q3, .ref q4, .ref q5, .ref q6, .ref q7])), (q1, .inl (cy 0, 6, .inl fh)), (q2, .inl (cy 0, 30, .inl fd)), (q4, .inl (cy 0, 30, .inl fs))], w, xW cy xtb a S1520] : List va_W)) (rs := ([[(z0, .inr (12, [.ref b, .ref q1, .ref q2, .ref q3, .ref q4, .ref q5, .ref q6, .ref q7])), (q1, .inl (cy 0, 6, .inl fh)), (q2, .inl (cy 0, 30, .inl fd)), (q4, .inl (cy 0, 30, .inl fs))], xW cy xtb a S1520] : List va_W)) (x := w) 1 rfl rfl hDn
    rw [show bi ((csI L xs 30).length = 0) = 0 from if_neg hne]
    refine kv_icmp_eq_t (tgt := 1544) hx hb (by omega) (by omega) (by omega) (by omega) (by omega) dL_law_1539 (by decide) ?_
    refine lv_iload hx hb dL_law_1544 (lv_at hl 1 rfl) ?_
    refine kv_if_lt (tgt := 1596) hx hb (by omega) (by omega) dL_law_1546 (by decide) (fun hneg => ?_) (fun hneg => ?_)
    · exact kk S1520 hB hi H _ ls (lv_sub hl [2, 3, 4, 5] rfl) hP hD hS
    · rcases hc9 (by omega) with ⟨ec, ev⟩ | ⟨j, hj, ec, ev⟩
      · rw [ec] at hl
        refine lv_iload hx hb dL_law_1549 (lv_at hl 0 rfl) ?_
        refine lv_bipush (v := ki 6) hx hb dL_law_1551 rfl ?_
        refine kv_icmp_ge_t (tgt := 1565) hx hb (by omega) (by omega) (by omega) (by omega) (by omega) dL_law_1553 (by decide) ?_
        refine lv_aload_n hx hb dL_law_1565 rfl (lv_at hl 3 rfl) ?_
        refine lv_iconst (v := ki 4) hx hb dL_law_1566 rfl ?_
        refine lv_iconst (v := ki 1) hx hb dL_law_1567 rfl ?_
        obtain ⟨⟨S1568, v1568⟩, hf1568, hq1568⟩ := t_stack (S := S1520) hB (n := 4) (w := 1) (by omega) (by omega) (by omega)
        dsimp only at hq1568
        obtain ⟨hv9, hf9, hl9⟩ := hq1568
        subst hv9
        have hB := BX_q hB hf9 hl9
        have hi := iX_q hi hf9
        rw [show stS (daysN gn 4 η) 1 = t from ev] at hf1568
        have hB := BX_8 hB
        have h2z : η 2 = η 2 := rfl
        have h10z : η 0 10 = η 0 10 := rfl
        have hPc := blk_P (bs := ([[(z0, .inr (12, [.ref b, .ref q1, .ref q2, .ref q3, .ref q4, .ref q5, .ref q6, .ref q7])), (q1, .inl (cy 0, 6, .inl fh)), (q2, .inl (cy 0, 30, .inl fd)), (q4, .inl (cy 0, 30, .inl fs))], w, xW cy xtb a S1520] : List va_W)) (rs := ([[(z0, .inr (12, [.ref b, .ref q1, .ref q2, .ref q3, .ref q4, .ref q5, .ref q6, .ref q7])), (q1, .inl (cy 0, 6, .inl fh)), (q2, .inl (cy 0, 30, .inl fd)), (q4, .inl (cy 0, 30, .inl fs))], w] : List va_W)) (x := xW cy xtb a S1520) 2 rfl rfl hP
        have hDc := blk_D (bs := ([[(z0, .inr (12, [.ref b, .ref q1, .ref q2, .ref q3, .ref q4, .ref q5, .ref q6, .ref q7])), (q1, .inl (cy 0, 6, .inl fh)), (q2, .inl (cy 0, 30, .inl fd)), (q4, .inl (cy 0, 30, .inl fs))], w, xW cy xtb a S1520] : List va_W)) (rs := ([[(z0, .inr (12, [.ref b, .ref q1, .ref q2, .ref q3, .ref q4, .ref q5, .ref q6, .ref q7])), (q1, .inl (cy 0, 6, .inl fh)), (q2, .inl (cy 0, 30, .inl fd)), (q4, .inl (cy 0, 30, .inl fs))], w] : List va_W)) (x := xW cy xtb a S1520) 2 rfl rfl hD
        refine lw_vi hx hb hml hown hts (K_sub hK) hEx hI hPc hDc hS hA (⟨xw_mem 477 (by decide +kernel) rfl, xw_mem 30 (by decide +kernel) rfl, xw_mem 474 (by decide +kernel) rfl, by decide +kernel⟩ : xML RL 84 yX11_stack cX11_stack 4 (some .int) 2) (xw_mem 475 (by decide +kernel) rfl) (xw_mem 476 (by decide +kernel) rfl) (he := rfl) (by decide) rfl [.int (ki 4), .int (ki 1)] (rest := []) (c_X11_stack hI hf1568 _) ⟨by omega, by omega⟩ ⟨by omega, by omega⟩ rfl hl.1 rfl (Nat.le_of_ble_eq_true (rfl)) dL_law_1568 (fun H locs hPn hS => ?_)
        have hDn := xD_st (S' := S1568) hDc
        have hP := blk_P2 (bs := ([[(z0, .inr (12, [.ref b, .ref q1, .ref q2, .ref q3, .ref q4, .ref q5, .ref q6, .ref q7])), (q1, .inl (cy 0, 6, .inl fh)), (q2, .inl (cy 0, 30, .inl fd)), (q4, .inl (cy 0, 30, .inl fs))], w, xW cy xtb a S1568] : List va_W)) (rs := ([[(z0, .inr (12, [.ref b, .ref q1, .ref q2, .ref q3, .ref q4, .ref q5, .ref q6, .ref q7])), (q1, .inl (cy 0, 6, .inl fh)), (q2, .inl (cy 0, 30, .inl fd)), (q4, .inl (cy 0, 30, .inl fs))], w] : List va_W)) (x := xW cy xtb a S1568) 2 rfl rfl hPn
        have hD := blk_D2 (bs := ([[(z0, .inr (12, [.ref b, .ref q1, .ref q2, .ref q3, .ref q4, .ref q5, .ref q6, .ref q7])), (q1, .inl (cy 0, 6, .inl fh)), (q2, .inl (cy 0, 30, .inl fd)), (q4, .inl (cy 0, 30, .inl fs))], w, xW cy xtb a S1568] : List va_W)) (rs := ([[(z0, .inr (12, [.ref b, .ref q1, .ref q2, .ref q3, .ref q4, .ref q5, .ref q6, .ref q7])), (q1, .inl (cy 0, 6, .inl fh)), (q2, .inl (cy 0, 30, .inl fd)), (q4, .inl (cy 0, 30, .inl fs))], w] : List va_W)) (x := xW cy xtb a S1568) 2 rfl rfl hDn
        refine lv_iload hx hb dL_law_1571 (lv_at hl 1 rfl) ?_
        refine kv_icmp_ne_f (tgt := 1594) hx hb rfl (by omega) (by omega) (by omega) (by omega) dL_law_1573 (by decide) ?_
        refine lv_aload_n hx hb dL_law_1576 rfl (lv_at hl 3 rfl) ?_
        obtain ⟨⟨S1577, v1577⟩, hf1577, hq1577⟩ := t_back8 (S := S1568) hB hi hwf h2z h10z
        dsimp only at hq1577
        obtain ⟨hv9, hB, hi⟩ := hq1577
        subst hv9
        rw [hE.2.2.2] at hf1577
        have hPc := blk_P (bs := ([[(z0, .inr (12, [.ref b, .ref q1, .ref q2, .ref q3, .ref q4, .ref q5, .ref q6, .ref q7])), (q1, .inl (cy 0, 6, .inl fh)), (q2, .inl (cy 0, 30, .inl fd)), (q4, .inl (cy 0, 30, .inl fs))], w, xW cy xtb a S1568] : List va_W)) (rs := ([[(z0, .inr (12, [.ref b, .ref q1, .ref q2, .ref q3, .ref q4, .ref q5, .ref q6, .ref q7])), (q1, .inl (cy 0, 6, .inl fh)), (q2, .inl (cy 0, 30, .inl fd)), (q4, .inl (cy 0, 30, .inl fs))], w] : List va_W)) (x := xW cy xtb a S1568) 2 rfl rfl hP
        have hDc := blk_D (bs := ([[(z0, .inr (12, [.ref b, .ref q1, .ref q2, .ref q3, .ref q4, .ref q5, .ref q6, .ref q7])), (q1, .inl (cy 0, 6, .inl fh)), (q2, .inl (cy 0, 30, .inl fd)), (q4, .inl (cy 0, 30, .inl fs))], w, xW cy xtb a S1568] : List va_W)) (rs := ([[(z0, .inr (12, [.ref b, .ref q1, .ref q2, .ref q3, .ref q4, .ref q5, .ref q6, .ref q7])), (q1, .inl (cy 0, 6, .inl fh)), (q2, .inl (cy 0, 30, .inl fd)), (q4, .inl (cy 0, 30, .inl fs))], w] : List va_W)) (x := xW cy xtb a S1568) 2 rfl rfl hD
        refine lw_vi hx hb hml hown hts (K_sub hK) hEx hI hPc hDc hS hA (⟨xw_mem 781 (by decide +kernel) rfl, xw_mem 30 (by decide +kernel) rfl, xw_mem 778 (by decide +kernel) rfl, by decide +kernel⟩ : xML RL 114 yX11_back cX11_back 1 (some .int) 0) (xw_mem 779 (by decide +kernel) rfl) (xw_mem 780 (by decide +kernel) rfl) (he := rfl) (by decide) rfl [] (rest := []) (c_X11_back hI hf1577 _) ⟨by omega, by omega⟩ ⟨by omega, by omega⟩ rfl hl.1 rfl (Nat.le_of_ble_eq_true (rfl)) dL_law_1577 (fun H locs hPn hS => ?_)
        have hDn := xD_st (S' := S1577) hDc
        have hP := blk_P2 (bs := ([[(z0, .inr (12, [.ref b, .ref q1, .ref q2, .ref q3, .ref q4, .ref q5, .ref q6, .ref q7])), (q1, .inl (cy 0, 6, .inl fh)), (q2, .inl (cy 0, 30, .inl fd)), (q4, .inl (cy 0, 30, .inl fs))], w, xW cy xtb a S1577] : List va_W)) (rs := ([[(z0, .inr (12, [.ref b, .ref q1, .ref q2, .ref q3, .ref q4, .ref q5, .ref q6, .ref q7])), (q1, .inl (cy 0, 6, .inl fh)), (q2, .inl (cy 0, 30, .inl fd)), (q4, .inl (cy 0, 30, .inl fs))], w] : List va_W)) (x := xW cy xtb a S1577) 2 rfl rfl hPn
        have hD := blk_D2 (bs := ([[(z0, .inr (12, [.ref b, .ref q1, .ref q2, .ref q3, .ref q4, .ref q5, .ref q6, .ref q7])), (q1, .inl (cy 0, 6, .inl fh)), (q2, .inl (cy 0, 30, .inl fd)), (q4, .inl (cy 0, 30, .inl fs))], w, xW cy xtb a S1577] : List va_W)) (rs := ([[(z0, .inr (12, [.ref b, .ref q1, .ref q2, .ref q3, .ref q4, .ref q5, .ref q6, .ref q7])), (q1, .inl (cy 0, 6, .inl fh)), (q2, .inl (cy 0, 30, .inl fd)), (q4, .inl (cy 0, 30, .inl fs))], w] : List va_W)) (x := xW cy xtb a S1577) 2 rfl rfl hDn
        refine kv_if_ne_f (tgt := 1594) hx hb (by omega) (by omega) (by omega) dL_law_1580 (by decide) ?_
        refine lv_aload_n hx hb dL_law_1583 rfl (lv_at hl 3 rfl) ?_
        refine lv_iconst (v := ki 4) hx hb dL_law_1584 rfl ?_
        refine lv_iconst (v := ki 1) hx hb dL_law_1585 rfl ?_
        obtain ⟨⟨S1586, v1586⟩, hf1586, hq1586⟩ := t_stack (S := S1577) hB (n := 4) (w := 1) (by omega) (by omega) (by omega)
        dsimp only at hq1586
        obtain ⟨hv9, hf9, hl9⟩ := hq1586
        subst hv9
        have hB := BX_q hB hf9 hl9
        have hi := iX_q hi hf9
        rw [show stS (daysN gn 4 η) 1 = hhS (daysN gn 4 η) from rfl] at hf1586
        have hPc := blk_P (bs := ([[(z0, .inr (12, [.ref b, .ref q1, .ref q2, .ref q3, .ref q4, .ref q5, .ref q6, .ref q7])), (q1, .inl (cy 0, 6, .inl fh)), (q2, .inl (cy 0, 30, .inl fd)), (q4, .inl (cy 0, 30, .inl fs))], w, xW cy xtb a S1577] : List va_W)) (rs := ([[(z0, .inr (12, [.ref b, .ref q1, .ref q2, .ref q3, .ref q4, .ref q5, .ref q6, .ref q7])), (q1, .inl (cy 0, 6, .inl fh)), (q2, .inl (cy 0, 30, .inl fd)), (q4, .inl (cy 0, 30, .inl fs))], w] : List va_W)) (x := xW cy xtb a S1577) 2 rfl rfl hP
        have hDc := blk_D (bs := ([[(z0, .inr (12, [.ref b, .ref q1, .ref q2, .ref q3, .ref q4, .ref q5, .ref q6, .ref q7])), (q1, .inl (cy 0, 6, .inl fh)), (q2, .inl (cy 0, 30, .inl fd)), (q4, .inl (cy 0, 30, .inl fs))], w, xW cy xtb a S1577] : List va_W)) (rs := ([[(z0, .inr (12, [.ref b, .ref q1, .ref q2, .ref q3, .ref q4, .ref q5, .ref q6, .ref q7])), (q1, .inl (cy 0, 6, .inl fh)), (q2, .inl (cy 0, 30, .inl fd)), (q4, .inl (cy 0, 30, .inl fs))], w] : List va_W)) (x := xW cy xtb a S1577) 2 rfl rfl hD
        refine lw_vi hx hb hml hown hts (K_sub hK) hEx hI hPc hDc hS hA (⟨xw_mem 477 (by decide +kernel) rfl, xw_mem 30 (by decide +kernel) rfl, xw_mem 474 (by decide +kernel) rfl, by decide +kernel⟩ : xML RL 84 yX11_stack cX11_stack 4 (some .int) 2) (xw_mem 475 (by decide +kernel) rfl) (xw_mem 476 (by decide +kernel) rfl) (he := rfl) (by decide) rfl [.int (ki 4), .int (ki 1)] (rest := []) (c_X11_stack hI hf1586 _) ⟨by omega, by omega⟩ ⟨by omega, by omega⟩ rfl hl.1 rfl (Nat.le_of_ble_eq_true (rfl)) dL_law_1586 (fun H locs hPn hS => ?_)
        have hDn := xD_st (S' := S1586) hDc
        have hP := blk_P2 (bs := ([[(z0, .inr (12, [.ref b, .ref q1, .ref q2, .ref q3, .ref q4, .ref q5, .ref q6, .ref q7])), (q1, .inl (cy 0, 6, .inl fh)), (q2, .inl (cy 0, 30, .inl fd)), (q4, .inl (cy 0, 30, .inl fs))], w, xW cy xtb a S1586] : List va_W)) (rs := ([[(z0, .inr (12, [.ref b, .ref q1, .ref q2, .ref q3, .ref q4, .ref q5, .ref q6, .ref q7])), (q1, .inl (cy 0, 6, .inl fh)), (q2, .inl (cy 0, 30, .inl fd)), (q4, .inl (cy 0, 30, .inl fs))], w] : List va_W)) (x := xW cy xtb a S1586) 2 rfl rfl hPn
        have hD := blk_D2 (bs := ([[(z0, .inr (12, [.ref b, .ref q1, .ref q2, .ref q3, .ref q4, .ref q5, .ref q6, .ref q7])), (q1, .inl (cy 0, 6, .inl fh)), (q2, .inl (cy 0, 30, .inl fd)), (q4, .inl (cy 0, 30, .inl fs))], w, xW cy xtb a S1586] : List va_W)) (rs := ([[(z0, .inr (12, [.ref b, .ref q1, .ref q2, .ref q3, .ref q4, .ref q5, .ref q6, .ref q7])), (q1, .inl (cy 0, 6, .inl fh)), (q2, .inl (cy 0, 30, .inl fd)), (q4, .inl (cy 0, 30, .inl fs))], w] : List va_W)) (x := xW cy xtb a S1586) 2 rfl rfl hDn
        refine lv_iload hx hb dL_law_1589 (lv_at hl 1 rfl) ?_
        refine kv_icmp_ge_t (tgt := 1596) hx hb (by omega) (by omega) (by omega) (by omega) (by omega) dL_law_1591 (by decide) ?_
        exact kk S1586 hB hi H _ ls (lv_sub hl [2, 3, 4, 5] rfl) hP hD hS
      · rw [ec] at hl
        refine lv_iload hx hb dL_law_1549 (lv_at hl 0 rfl) ?_
        refine lv_bipush (v := ki 6) hx hb dL_law_1551 rfl ?_
        refine kv_icmp_ge_f (tgt := 1565) hx hb (by omega) (by omega) (by omega) (by omega) (by omega) dL_law_1553 (by decide) ?_
        refine lv_aload_n hx hb dL_law_1556 rfl (lv_at hl 3 rfl) ?_
        refine lv_iload hx hb dL_law_1557 (lv_at hl 0 rfl) ?_
        obtain ⟨⟨S1559, v1559⟩, hf1559, hq1559⟩ := t_turned8 (S := S1520) (BX_8 hB) (c := (j : Int)) (by omega) (by omega)
        dsimp only at hq1559
        have hw1 := hwf.1 (j : Int)
        obtain ⟨hv9, hB, hf9⟩ := hq1559
        subst hv9
        have hi := iX_2 hi hf9
        have hPc := blk_P (bs := ([[(z0, .inr (12, [.ref b, .ref q1, .ref q2, .ref q3, .ref q4, .ref q5, .ref q6, .ref q7])), (q1, .inl (cy 0, 6, .inl fh)), (q2, .inl (cy 0, 30, .inl fd)), (q4, .inl (cy 0, 30, .inl fs))], w, xW cy xtb a S1520] : List va_W)) (rs := ([[(z0, .inr (12, [.ref b, .ref q1, .ref q2, .ref q3, .ref q4, .ref q5, .ref q6, .ref q7])), (q1, .inl (cy 0, 6, .inl fh)), (q2, .inl (cy 0, 30, .inl fd)), (q4, .inl (cy 0, 30, .inl fs))], w] : List va_W)) (x := xW cy xtb a S1520) 2 rfl rfl hP
        have hDc := blk_D (bs := ([[(z0, .inr (12, [.ref b, .ref q1, .ref q2, .ref q3, .ref q4, .ref q5, .ref q6, .ref q7])), (q1, .inl (cy 0, 6, .inl fh)), (q2, .inl (cy 0, 30, .inl fd)), (q4, .inl (cy 0, 30, .inl fs))], w, xW cy xtb a S1520] : List va_W)) (rs := ([[(z0, .inr (12, [.ref b, .ref q1, .ref q2, .ref q3, .ref q4, .ref q5, .ref q6, .ref q7])), (q1, .inl (cy 0, 6, .inl fh)), (q2, .inl (cy 0, 30, .inl fd)), (q4, .inl (cy 0, 30, .inl fs))], w] : List va_W)) (x := xW cy xtb a S1520) 2 rfl rfl hD
        refine lw_vi hx hb hml hown hts (K_sub hK) hEx hI hPc hDc hS hA (⟨xw_mem 757 (by decide +kernel) rfl, xw_mem 30 (by decide +kernel) rfl, xw_mem 754 (by decide +kernel) rfl, by decide +kernel⟩ : xML RL 171 yX11_turned cX11_turned 2 (some .int) 1) (xw_mem 755 (by decide +kernel) rfl) (xw_mem 756 (by decide +kernel) rfl) (he := rfl) (by decide) rfl [.int (ki (j : Int))] (rest := []) (c_X11_turned hI hf1559 _) ⟨by omega, by omega⟩ ⟨by omega, by omega⟩ rfl hl.1 rfl (Nat.le_of_ble_eq_true (rfl)) dL_law_1559 (fun H locs hPn hS => ?_)
        have hDn := xD_st (S' := S1559) hDc
        have hP := blk_P2 (bs := ([[(z0, .inr (12, [.ref b, .ref q1, .ref q2, .ref q3, .ref q4, .ref q5, .ref q6, .ref q7])), (q1, .inl (cy 0, 6, .inl fh)), (q2, .inl (cy 0, 30, .inl fd)), (q4, .inl (cy 0, 30, .inl fs))], w, xW cy xtb a S1559] : List va_W)) (rs := ([[(z0, .inr (12, [.ref b, .ref q1, .ref q2, .ref q3, .ref q4, .ref q5, .ref q6, .ref q7])), (q1, .inl (cy 0, 6, .inl fh)), (q2, .inl (cy 0, 30, .inl fd)), (q4, .inl (cy 0, 30, .inl fs))], w] : List va_W)) (x := xW cy xtb a S1559) 2 rfl rfl hPn
        have hD := blk_D2 (bs := ([[(z0, .inr (12, [.ref b, .ref q1, .ref q2, .ref q3, .ref q4, .ref q5, .ref q6, .ref q7])), (q1, .inl (cy 0, 6, .inl fh)), (q2, .inl (cy 0, 30, .inl fd)), (q4, .inl (cy 0, 30, .inl fs))], w, xW cy xtb a S1559] : List va_W)) (rs := ([[(z0, .inr (12, [.ref b, .ref q1, .ref q2, .ref q3, .ref q4, .ref q5, .ref q6, .ref q7])), (q1, .inl (cy 0, 6, .inl fh)), (q2, .inl (cy 0, 30, .inl fd)), (q4, .inl (cy 0, 30, .inl fs))], w] : List va_W)) (x := xW cy xtb a S1559) 2 rfl rfl hDn
        refine kv_if_lt_f (tgt := 1594) hx hb (by omega) (by omega) (by omega) dL_law_1562 (by decide) ?_
        refine lv_aload_n hx hb dL_law_1565 rfl (lv_at hl 3 rfl) ?_
        refine lv_iconst (v := ki 4) hx hb dL_law_1566 rfl ?_
        refine lv_iconst (v := ki 1) hx hb dL_law_1567 rfl ?_
        obtain ⟨⟨S1568, v1568⟩, hf1568, hq1568⟩ := t_stack8 (S := S1559) hB (n := 4) (w := 1) (by omega) (by omega) (by omega)
        dsimp only at hq1568
        obtain ⟨hv9, hf9, hl9⟩ := hq1568
        subst hv9
        have hB := BX_q hB hf9 hl9
        have hi := iX_q hi hf9
        rw [show stS (daysN gn 4 (turS j η)) 1 = t from ev] at hf1568
        have h2z : turS j η 2 = η 2 := rfl
        have h10z : turS j η 0 10 = η 0 10 := rfl
        have hPc := blk_P (bs := ([[(z0, .inr (12, [.ref b, .ref q1, .ref q2, .ref q3, .ref q4, .ref q5, .ref q6, .ref q7])), (q1, .inl (cy 0, 6, .inl fh)), (q2, .inl (cy 0, 30, .inl fd)), (q4, .inl (cy 0, 30, .inl fs))], w, xW cy xtb a S1559] : List va_W)) (rs := ([[(z0, .inr (12, [.ref b, .ref q1, .ref q2, .ref q3, .ref q4, .ref q5, .ref q6, .ref q7])), (q1, .inl (cy 0, 6, .inl fh)), (q2, .inl (cy 0, 30, .inl fd)), (q4, .inl (cy 0, 30, .inl fs))], w] : List va_W)) (x := xW cy xtb a S1559) 2 rfl rfl hP
        have hDc := blk_D (bs := ([[(z0, .inr (12, [.ref b, .ref q1, .ref q2, .ref q3, .ref q4, .ref q5, .ref q6, .ref q7])), (q1, .inl (cy 0, 6, .inl fh)), (q2, .inl (cy 0, 30, .inl fd)), (q4, .inl (cy 0, 30, .inl fs))], w, xW cy xtb a S1559] : List va_W)) (rs := ([[(z0, .inr (12, [.ref b, .ref q1, .ref q2, .ref q3, .ref q4, .ref q5, .ref q6, .ref q7])), (q1, .inl (cy 0, 6, .inl fh)), (q2, .inl (cy 0, 30, .inl fd)), (q4, .inl (cy 0, 30, .inl fs))], w] : List va_W)) (x := xW cy xtb a S1559) 2 rfl rfl hD
        refine lw_vi hx hb hml hown hts (K_sub hK) hEx hI hPc hDc hS hA (⟨xw_mem 477 (by decide +kernel) rfl, xw_mem 30 (by decide +kernel) rfl, xw_mem 474 (by decide +kernel) rfl, by decide +kernel⟩ : xML RL 84 yX11_stack cX11_stack 4 (some .int) 2) (xw_mem 475 (by decide +kernel) rfl) (xw_mem 476 (by decide +kernel) rfl) (he := rfl) (by decide) rfl [.int (ki 4), .int (ki 1)] (rest := []) (c_X11_stack hI hf1568 _) ⟨by omega, by omega⟩ ⟨by omega, by omega⟩ rfl hl.1 rfl (Nat.le_of_ble_eq_true (rfl)) dL_law_1568 (fun H locs hPn hS => ?_)
        have hDn := xD_st (S' := S1568) hDc
        have hP := blk_P2 (bs := ([[(z0, .inr (12, [.ref b, .ref q1, .ref q2, .ref q3, .ref q4, .ref q5, .ref q6, .ref q7])), (q1, .inl (cy 0, 6, .inl fh)), (q2, .inl (cy 0, 30, .inl fd)), (q4, .inl (cy 0, 30, .inl fs))], w, xW cy xtb a S1568] : List va_W)) (rs := ([[(z0, .inr (12, [.ref b, .ref q1, .ref q2, .ref q3, .ref q4, .ref q5, .ref q6, .ref q7])), (q1, .inl (cy 0, 6, .inl fh)), (q2, .inl (cy 0, 30, .inl fd)), (q4, .inl (cy 0, 30, .inl fs))], w] : List va_W)) (x := xW cy xtb a S1568) 2 rfl rfl hPn
        have hD := blk_D2 (bs := ([[(z0, .inr (12, [.ref b, .ref q1, .ref q2, .ref q3, .ref q4, .ref q5, .ref q6, .ref q7])), (q1, .inl (cy 0, 6, .inl fh)), (q2, .inl (cy 0, 30, .inl fd)), (q4, .inl (cy 0, 30, .inl fs))], w, xW cy xtb a S1568] : List va_W)) (rs := ([[(z0, .inr (12, [.ref b, .ref q1, .ref q2, .ref q3, .ref q4, .ref q5, .ref q6, .ref q7])), (q1, .inl (cy 0, 6, .inl fh)), (q2, .inl (cy 0, 30, .inl fd)), (q4, .inl (cy 0, 30, .inl fs))], w] : List va_W)) (x := xW cy xtb a S1568) 2 rfl rfl hDn
        refine lv_iload hx hb dL_law_1571 (lv_at hl 1 rfl) ?_
        refine kv_icmp_ne_f (tgt := 1594) hx hb rfl (by omega) (by omega) (by omega) (by omega) dL_law_1573 (by decide) ?_
        refine lv_aload_n hx hb dL_law_1576 rfl (lv_at hl 3 rfl) ?_
        obtain ⟨⟨S1577, v1577⟩, hf1577, hq1577⟩ := t_back8 (S := S1568) hB hi hwf h2z h10z
        dsimp only at hq1577
        obtain ⟨hv9, hB, hi⟩ := hq1577
        subst hv9
        rw [hE.2.2.2] at hf1577
        have hPc := blk_P (bs := ([[(z0, .inr (12, [.ref b, .ref q1, .ref q2, .ref q3, .ref q4, .ref q5, .ref q6, .ref q7])), (q1, .inl (cy 0, 6, .inl fh)), (q2, .inl (cy 0, 30, .inl fd)), (q4, .inl (cy 0, 30, .inl fs))], w, xW cy xtb a S1568] : List va_W)) (rs := ([[(z0, .inr (12, [.ref b, .ref q1, .ref q2, .ref q3, .ref q4, .ref q5, .ref q6, .ref q7])), (q1, .inl (cy 0, 6, .inl fh)), (q2, .inl (cy 0, 30, .inl fd)), (q4, .inl (cy 0, 30, .inl fs))], w] : List va_W)) (x := xW cy xtb a S1568) 2 rfl rfl hP
        have hDc := blk_D (bs := ([[(z0, .inr (12, [.ref b, .ref q1, .ref q2, .ref q3, .ref q4, .ref q5, .ref q6, .ref q7])), (q1, .inl (cy 0, 6, .inl fh)), (q2, .inl (cy 0, 30, .inl fd)), (q4, .inl (cy 0, 30, .inl fs))], w, xW cy xtb a S1568] : List va_W)) (rs := ([[(z0, .inr (12, [.ref b, .ref q1, .ref q2, .ref q3, .ref q4, .ref q5, .ref q6, .ref q7])), (q1, .inl (cy 0, 6, .inl fh)), (q2, .inl (cy 0, 30, .inl fd)), (q4, .inl (cy 0, 30, .inl fs))], w] : List va_W)) (x := xW cy xtb a S1568) 2 rfl rfl hD
        refine lw_vi hx hb hml hown hts (K_sub hK) hEx hI hPc hDc hS hA (⟨xw_mem 781 (by decide +kernel) rfl, xw_mem 30 (by decide +kernel) rfl, xw_mem 778 (by decide +kernel) rfl, by decide +kernel⟩ : xML RL 114 yX11_back cX11_back 1 (some .int) 0) (xw_mem 779 (by decide +kernel) rfl) (xw_mem 780 (by decide +kernel) rfl) (he := rfl) (by decide) rfl [] (rest := []) (c_X11_back hI hf1577 _) ⟨by omega, by omega⟩ ⟨by omega, by omega⟩ rfl hl.1 rfl (Nat.le_of_ble_eq_true (rfl)) dL_law_1577 (fun H locs hPn hS => ?_)
        have hDn := xD_st (S' := S1577) hDc
        have hP := blk_P2 (bs := ([[(z0, .inr (12, [.ref b, .ref q1, .ref q2, .ref q3, .ref q4, .ref q5, .ref q6, .ref q7])), (q1, .inl (cy 0, 6, .inl fh)), (q2, .inl (cy 0, 30, .inl fd)), (q4, .inl (cy 0, 30, .inl fs))], w, xW cy xtb a S1577] : List va_W)) (rs := ([[(z0, .inr (12, [.ref b, .ref q1, .ref q2, .ref q3, .ref q4, .ref q5, .ref q6, .ref q7])), (q1, .inl (cy 0, 6, .inl fh)), (q2, .inl (cy 0, 30, .inl fd)), (q4, .inl (cy 0, 30, .inl fs))], w] : List va_W)) (x := xW cy xtb a S1577) 2 rfl rfl hPn
        have hD := blk_D2 (bs := ([[(z0, .inr (12, [.ref b, .ref q1, .ref q2, .ref q3, .ref q4, .ref q5, .ref q6, .ref q7])), (q1, .inl (cy 0, 6, .inl fh)), (q2, .inl (cy 0, 30, .inl fd)), (q4, .inl (cy 0, 30, .inl fs))], w, xW cy xtb a S1577] : List va_W)) (rs := ([[(z0, .inr (12, [.ref b, .ref q1, .ref q2, .ref q3, .ref q4, .ref q5, .ref q6, .ref q7])), (q1, .inl (cy 0, 6, .inl fh)), (q2, .inl (cy 0, 30, .inl fd)), (q4, .inl (cy 0, 30, .inl fs))], w] : List va_W)) (x := xW cy xtb a S1577) 2 rfl rfl hDn
        refine kv_if_ne_f (tgt := 1594) hx hb (by omega) (by omega) (by omega) dL_law_1580 (by decide) ?_
        refine lv_aload_n hx hb dL_law_1583 rfl (lv_at hl 3 rfl) ?_
        refine lv_iconst (v := ki 4) hx hb dL_law_1584 rfl ?_
        refine lv_iconst (v := ki 1) hx hb dL_law_1585 rfl ?_
        obtain ⟨⟨S1586, v1586⟩, hf1586, hq1586⟩ := t_stack (S := S1577) hB (n := 4) (w := 1) (by omega) (by omega) (by omega)
        dsimp only at hq1586
        obtain ⟨hv9, hf9, hl9⟩ := hq1586
        subst hv9
        have hB := BX_q hB hf9 hl9
        have hi := iX_q hi hf9
        rw [show stS (daysN gn 4 η) 1 = hhS (daysN gn 4 η) from rfl] at hf1586
        have hPc := blk_P (bs := ([[(z0, .inr (12, [.ref b, .ref q1, .ref q2, .ref q3, .ref q4, .ref q5, .ref q6, .ref q7])), (q1, .inl (cy 0, 6, .inl fh)), (q2, .inl (cy 0, 30, .inl fd)), (q4, .inl (cy 0, 30, .inl fs))], w, xW cy xtb a S1577] : List va_W)) (rs := ([[(z0, .inr (12, [.ref b, .ref q1, .ref q2, .ref q3, .ref q4, .ref q5, .ref q6, .ref q7])), (q1, .inl (cy 0, 6, .inl fh)), (q2, .inl (cy 0, 30, .inl fd)), (q4, .inl (cy 0, 30, .inl fs))], w] : List va_W)) (x := xW cy xtb a S1577) 2 rfl rfl hP
        have hDc := blk_D (bs := ([[(z0, .inr (12, [.ref b, .ref q1, .ref q2, .ref q3, .ref q4, .ref q5, .ref q6, .ref q7])), (q1, .inl (cy 0, 6, .inl fh)), (q2, .inl (cy 0, 30, .inl fd)), (q4, .inl (cy 0, 30, .inl fs))], w, xW cy xtb a S1577] : List va_W)) (rs := ([[(z0, .inr (12, [.ref b, .ref q1, .ref q2, .ref q3, .ref q4, .ref q5, .ref q6, .ref q7])), (q1, .inl (cy 0, 6, .inl fh)), (q2, .inl (cy 0, 30, .inl fd)), (q4, .inl (cy 0, 30, .inl fs))], w] : List va_W)) (x := xW cy xtb a S1577) 2 rfl rfl hD
        refine lw_vi hx hb hml hown hts (K_sub hK) hEx hI hPc hDc hS hA (⟨xw_mem 477 (by decide +kernel) rfl, xw_mem 30 (by decide +kernel) rfl, xw_mem 474 (by decide +kernel) rfl, by decide +kernel⟩ : xML RL 84 yX11_stack cX11_stack 4 (some .int) 2) (xw_mem 475 (by decide +kernel) rfl) (xw_mem 476 (by decide +kernel) rfl) (he := rfl) (by decide) rfl [.int (ki 4), .int (ki 1)] (rest := []) (c_X11_stack hI hf1586 _) ⟨by omega, by omega⟩ ⟨by omega, by omega⟩ rfl hl.1 rfl (Nat.le_of_ble_eq_true (rfl)) dL_law_1586 (fun H locs hPn hS => ?_)
        have hDn := xD_st (S' := S1586) hDc
        have hP := blk_P2 (bs := ([[(z0, .inr (12, [.ref b, .ref q1, .ref q2, .ref q3, .ref q4, .ref q5, .ref q6, .ref q7])), (q1, .inl (cy 0, 6, .inl fh)), (q2, .inl (cy 0, 30, .inl fd)), (q4, .inl (cy 0, 30, .inl fs))], w, xW cy xtb a S1586] : List va_W)) (rs := ([[(z0, .inr (12, [.ref b, .ref q1, .ref q2, .ref q3, .ref q4, .ref q5, .ref q6, .ref q7])), (q1, .inl (cy 0, 6, .inl fh)), (q2, .inl (cy 0, 30, .inl fd)), (q4, .inl (cy 0, 30, .inl fs))], w] : List va_W)) (x := xW cy xtb a S1586) 2 rfl rfl hPn
        have hD := blk_D2 (bs := ([[(z0, .inr (12, [.ref b, .ref q1, .ref q2, .ref q3, .ref q4, .ref q5, .ref q6, .ref q7])), (q1, .inl (cy 0, 6, .inl fh)), (q2, .inl (cy 0, 30, .inl fd)), (q4, .inl (cy 0, 30, .inl fs))], w, xW cy xtb a S1586] : List va_W)) (rs := ([[(z0, .inr (12, [.ref b, .ref q1, .ref q2, .ref q3, .ref q4, .ref q5, .ref q6, .ref q7])), (q1, .inl (cy 0, 6, .inl fh)), (q2, .inl (cy 0, 30, .inl fd)), (q4, .inl (cy 0, 30, .inl fs))], w] : List va_W)) (x := xW cy xtb a S1586) 2 rfl rfl hDn
        refine lv_iload hx hb dL_law_1589 (lv_at hl 1 rfl) ?_
        refine kv_icmp_ge_t (tgt := 1596) hx hb (by omega) (by omega) (by omega) (by omega) (by omega) dL_law_1591 (by decide) ?_
        exact kk S1586 hB hi H _ ls (lv_sub hl [2, 3, 4, 5] rfl) hP hD hS
  · have hem : (csI L xs 30).length = 0 := (cs_nc hE).mpr (Classical.byContradiction (fun q => by have := hnn hwf q; omega))
    refine lv_iconst (v := ki 1) hx hb dL_law_1530 rfl ?_
    refine lv_goto (tgt := 1535) hx hb dL_law_1531 (by decide) ?_
    refine lv_aload_n hx hb dL_law_1535 rfl (lv_at hl 5 rfl) ?_
    have hPc := blk_P (bs := ([[(z0, .inr (12, [.ref b, .ref q1, .ref q2, .ref q3, .ref q4, .ref q5, .ref q6, .ref q7])), (q1, .inl (cy 0, 6, .inl fh)), (q2, .inl (cy 0, 30, .inl fd)), (q4, .inl (cy 0, 30, .inl fs))], w, xW cy xtb a S1520] : List va_W)) (rs := ([[(z0, .inr (12, [.ref b, .ref q1, .ref q2, .ref q3, .ref q4, .ref q5, .ref q6, .ref q7])), (q1, .inl (cy 0, 6, .inl fh)), (q2, .inl (cy 0, 30, .inl fd)), (q4, .inl (cy 0, 30, .inl fs))], xW cy xtb a S1520] : List va_W)) (x := w) 1 rfl rfl hP
    have hDc := blk_D (bs := ([[(z0, .inr (12, [.ref b, .ref q1, .ref q2, .ref q3, .ref q4, .ref q5, .ref q6, .ref q7])), (q1, .inl (cy 0, 6, .inl fh)), (q2, .inl (cy 0, 30, .inl fd)), (q4, .inl (cy 0, 30, .inl fs))], w, xW cy xtb a S1520] : List va_W)) (rs := ([[(z0, .inr (12, [.ref b, .ref q1, .ref q2, .ref q3, .ref q4, .ref q5, .ref q6, .ref q7])), (q1, .inl (cy 0, 6, .inl fh)), (q2, .inl (cy 0, 30, .inl fd)), (q4, .inl (cy 0, 30, .inl fs))], xW cy xtb a S1520] : List va_W)) (x := w) 1 rfl rfl hD
    refine lk_isEmpty hx hb hml hown hts hK hN hZ hS hA hl.1 (Nat.le_of_ble_eq_true (rfl)) (rest := [.int (ki 1)]) (⟨xw_mem 1071 (by decide +kernel) rfl, xw_mem 46 (by decide +kernel) rfl, xw_mem 1068 (by decide +kernel) rfl, by decide +kernel⟩ : xML RL 87 yJx4a65c_isEmpty_aae02 cJx4a65c_isEmpty_aae02 1 (some .boolean) 0) hw9 hPc hDc ⟨by omega, by omega⟩ ⟨by omega, by omega⟩ dL_law_1536 (fun  H locs hPn hDn hS => ?_)
    have hP := blk_P2 (bs := ([[(z0, .inr (12, [.ref b, .ref q1, .ref q2, .ref q3, .ref q4, .ref q5, .ref q6, .ref q7])), (q1, .inl (cy 0, 6, .inl fh)), (q2, .inl (cy 0, 30, .inl fd)), (q4, .inl (cy 0, 30, .inl fs))], w, xW cy xtb a S1520] : List va_W)) (rs := ([[(z0, .inr (12, [.ref b, .ref q1, .ref q2, .ref q3, .ref q4, .ref q5, .ref q6, .ref q7])), (q1, .inl (cy 0, 6, .inl fh)), (q2, .inl (cy 0, 30, .inl fd)), (q4, .inl (cy 0, 30, .inl fs))], xW cy xtb a S1520] : List va_W)) (x := w) 1 rfl rfl hPn
    have hD := blk_D2 (bs := ([[(z0, .inr (12, [.ref b, .ref q1, .ref q2, .ref q3, .ref q4, .ref q5, .ref q6, .ref q7])), (q1, .inl (cy 0, 6, .inl fh)), (q2, .inl (cy 0, 30, .inl fd)), (q4, .inl (cy 0, 30, .inl fs))], w, xW cy xtb a S1520] : List va_W)) (rs := ([[(z0, .inr (12, [.ref b, .ref q1, .ref q2, .ref q3, .ref q4, .ref q5, .ref q6, .ref q7])), (q1, .inl (cy 0, 6, .inl fh)), (q2, .inl (cy 0, 30, .inl fd)), (q4, .inl (cy 0, 30, .inl fs))], xW cy xtb a S1520] : List va_W)) (x := w) 1 rfl rfl hDn
    rw [show bi ((csI L xs 30).length = 0) = 1 from if_pos hem]
    refine kv_icmp_eq_t (tgt := 1544) hx hb (by omega) (by omega) (by omega) (by omega) (by omega) dL_law_1539 (by decide) ?_
    refine lv_iload hx hb dL_law_1544 (lv_at hl 1 rfl) ?_
    refine kv_if_lt (tgt := 1596) hx hb (by omega) (by omega) dL_law_1546 (by decide) (fun hneg => ?_) (fun hneg => ?_)
    · exact kk S1520 hB hi H _ ls (lv_sub hl [2, 3, 4, 5] rfl) hP hD hS
    · rcases hc9 (by omega) with ⟨ec, ev⟩ | ⟨j, hj, ec, ev⟩
      · rw [ec] at hl
        refine lv_iload hx hb dL_law_1549 (lv_at hl 0 rfl) ?_
        refine lv_bipush (v := ki 6) hx hb dL_law_1551 rfl ?_
        refine kv_icmp_ge_t (tgt := 1565) hx hb (by omega) (by omega) (by omega) (by omega) (by omega) dL_law_1553 (by decide) ?_
        refine lv_aload_n hx hb dL_law_1565 rfl (lv_at hl 3 rfl) ?_
        refine lv_iconst (v := ki 4) hx hb dL_law_1566 rfl ?_
        refine lv_iconst (v := ki 1) hx hb dL_law_1567 rfl ?_
        obtain ⟨⟨S1568, v1568⟩, hf1568, hq1568⟩ := t_stack (S := S1520) hB (n := 4) (w := 1) (by omega) (by omega) (by omega)
        dsimp only at hq1568
        obtain ⟨hv9, hf9, hl9⟩ := hq1568
        subst hv9
        have hB := BX_q hB hf9 hl9
        have hi := iX_q hi hf9
        rw [show stS (daysN gn 4 η) 1 = t from ev] at hf1568
        have hB := BX_8 hB
        have h2z : η 2 = η 2 := rfl
        have h10z : η 0 10 = η 0 10 := rfl
        have hPc := blk_P (bs := ([[(z0, .inr (12, [.ref b, .ref q1, .ref q2, .ref q3, .ref q4, .ref q5, .ref q6, .ref q7])), (q1, .inl (cy 0, 6, .inl fh)), (q2, .inl (cy 0, 30, .inl fd)), (q4, .inl (cy 0, 30, .inl fs))], w, xW cy xtb a S1520] : List va_W)) (rs := ([[(z0, .inr (12, [.ref b, .ref q1, .ref q2, .ref q3, .ref q4, .ref q5, .ref q6, .ref q7])), (q1, .inl (cy 0, 6, .inl fh)), (q2, .inl (cy 0, 30, .inl fd)), (q4, .inl (cy 0, 30, .inl fs))], w] : List va_W)) (x := xW cy xtb a S1520) 2 rfl rfl hP
        have hDc := blk_D (bs := ([[(z0, .inr (12, [.ref b, .ref q1, .ref q2, .ref q3, .ref q4, .ref q5, .ref q6, .ref q7])), (q1, .inl (cy 0, 6, .inl fh)), (q2, .inl (cy 0, 30, .inl fd)), (q4, .inl (cy 0, 30, .inl fs))], w, xW cy xtb a S1520] : List va_W)) (rs := ([[(z0, .inr (12, [.ref b, .ref q1, .ref q2, .ref q3, .ref q4, .ref q5, .ref q6, .ref q7])), (q1, .inl (cy 0, 6, .inl fh)), (q2, .inl (cy 0, 30, .inl fd)), (q4, .inl (cy 0, 30, .inl fs))], w] : List va_W)) (x := xW cy xtb a S1520) 2 rfl rfl hD
        refine lw_vi hx hb hml hown hts (K_sub hK) hEx hI hPc hDc hS hA (⟨xw_mem 477 (by decide +kernel) rfl, xw_mem 30 (by decide +kernel) rfl, xw_mem 474 (by decide +kernel) rfl, by decide +kernel⟩ : xML RL 84 yX11_stack cX11_stack 4 (some .int) 2) (xw_mem 475 (by decide +kernel) rfl) (xw_mem 476 (by decide +kernel) rfl) (he := rfl) (by decide) rfl [.int (ki 4), .int (ki 1)] (rest := []) (c_X11_stack hI hf1568 _) ⟨by omega, by omega⟩ ⟨by omega, by omega⟩ rfl hl.1 rfl (Nat.le_of_ble_eq_true (rfl)) dL_law_1568 (fun H locs hPn hS => ?_)
        have hDn := xD_st (S' := S1568) hDc
        have hP := blk_P2 (bs := ([[(z0, .inr (12, [.ref b, .ref q1, .ref q2, .ref q3, .ref q4, .ref q5, .ref q6, .ref q7])), (q1, .inl (cy 0, 6, .inl fh)), (q2, .inl (cy 0, 30, .inl fd)), (q4, .inl (cy 0, 30, .inl fs))], w, xW cy xtb a S1568] : List va_W)) (rs := ([[(z0, .inr (12, [.ref b, .ref q1, .ref q2, .ref q3, .ref q4, .ref q5, .ref q6, .ref q7])), (q1, .inl (cy 0, 6, .inl fh)), (q2, .inl (cy 0, 30, .inl fd)), (q4, .inl (cy 0, 30, .inl fs))], w] : List va_W)) (x := xW cy xtb a S1568) 2 rfl rfl hPn
        have hD := blk_D2 (bs := ([[(z0, .inr (12, [.ref b, .ref q1, .ref q2, .ref q3, .ref q4, .ref q5, .ref q6, .ref q7])), (q1, .inl (cy 0, 6, .inl fh)), (q2, .inl (cy 0, 30, .inl fd)), (q4, .inl (cy 0, 30, .inl fs))], w, xW cy xtb a S1568] : List va_W)) (rs := ([[(z0, .inr (12, [.ref b, .ref q1, .ref q2, .ref q3, .ref q4, .ref q5, .ref q6, .ref q7])), (q1, .inl (cy 0, 6, .inl fh)), (q2, .inl (cy 0, 30, .inl fd)), (q4, .inl (cy 0, 30, .inl fs))], w] : List va_W)) (x := xW cy xtb a S1568) 2 rfl rfl hDn
        refine lv_iload hx hb dL_law_1571 (lv_at hl 1 rfl) ?_
        refine kv_icmp_ne_f (tgt := 1594) hx hb rfl (by omega) (by omega) (by omega) (by omega) dL_law_1573 (by decide) ?_
        refine lv_aload_n hx hb dL_law_1576 rfl (lv_at hl 3 rfl) ?_
        obtain ⟨⟨S1577, v1577⟩, hf1577, hq1577⟩ := t_back8 (S := S1568) hB hi hwf h2z h10z
        dsimp only at hq1577
        obtain ⟨hv9, hB, hi⟩ := hq1577
        subst hv9
        rw [hE.2.2.2] at hf1577
        have hPc := blk_P (bs := ([[(z0, .inr (12, [.ref b, .ref q1, .ref q2, .ref q3, .ref q4, .ref q5, .ref q6, .ref q7])), (q1, .inl (cy 0, 6, .inl fh)), (q2, .inl (cy 0, 30, .inl fd)), (q4, .inl (cy 0, 30, .inl fs))], w, xW cy xtb a S1568] : List va_W)) (rs := ([[(z0, .inr (12, [.ref b, .ref q1, .ref q2, .ref q3, .ref q4, .ref q5, .ref q6, .ref q7])), (q1, .inl (cy 0, 6, .inl fh)), (q2, .inl (cy 0, 30, .inl fd)), (q4, .inl (cy 0, 30, .inl fs))], w] : List va_W)) (x := xW cy xtb a S1568) 2 rfl rfl hP
        have hDc := blk_D (bs := ([[(z0, .inr (12, [.ref b, .ref q1, .ref q2, .ref q3, .ref q4, .ref q5, .ref q6, .ref q7])), (q1, .inl (cy 0, 6, .inl fh)), (q2, .inl (cy 0, 30, .inl fd)), (q4, .inl (cy 0, 30, .inl fs))], w, xW cy xtb a S1568] : List va_W)) (rs := ([[(z0, .inr (12, [.ref b, .ref q1, .ref q2, .ref q3, .ref q4, .ref q5, .ref q6, .ref q7])), (q1, .inl (cy 0, 6, .inl fh)), (q2, .inl (cy 0, 30, .inl fd)), (q4, .inl (cy 0, 30, .inl fs))], w] : List va_W)) (x := xW cy xtb a S1568) 2 rfl rfl hD
        refine lw_vi hx hb hml hown hts (K_sub hK) hEx hI hPc hDc hS hA (⟨xw_mem 781 (by decide +kernel) rfl, xw_mem 30 (by decide +kernel) rfl, xw_mem 778 (by decide +kernel) rfl, by decide +kernel⟩ : xML RL 114 yX11_back cX11_back 1 (some .int) 0) (xw_mem 779 (by decide +kernel) rfl) (xw_mem 780 (by decide +kernel) rfl) (he := rfl) (by decide) rfl [] (rest := []) (c_X11_back hI hf1577 _) ⟨by omega, by omega⟩ ⟨by omega, by omega⟩ rfl hl.1 rfl (Nat.le_of_ble_eq_true (rfl)) dL_law_1577 (fun H locs hPn hS => ?_)
        have hDn := xD_st (S' := S1577) hDc
        have hP := blk_P2 (bs := ([[(z0, .inr (12, [.ref b, .ref q1, .ref q2, .ref q3, .ref q4, .ref q5, .ref q6, .ref q7])), (q1, .inl (cy 0, 6, .inl fh)), (q2, .inl (cy 0, 30, .inl fd)), (q4, .inl (cy 0, 30, .inl fs))], w, xW cy xtb a S1577] : List va_W)) (rs := ([[(z0, .inr (12, [.ref b, .ref q1, .ref q2, .ref q3, .ref q4, .ref q5, .ref q6, .ref q7])), (q1, .inl (cy 0, 6, .inl fh)), (q2, .inl (cy 0, 30, .inl fd)), (q4, .inl (cy 0, 30, .inl fs))], w] : List va_W)) (x := xW cy xtb a S1577) 2 rfl rfl hPn
        have hD := blk_D2 (bs := ([[(z0, .inr (12, [.ref b, .ref q1, .ref q2, .ref q3, .ref q4, .ref q5, .ref q6, .ref q7])), (q1, .inl (cy 0, 6, .inl fh)), (q2, .inl (cy 0, 30, .inl fd)), (q4, .inl (cy 0, 30, .inl fs))], w, xW cy xtb a S1577] : List va_W)) (rs := ([[(z0, .inr (12, [.ref b, .ref q1, .ref q2, .ref q3, .ref q4, .ref q5, .ref q6, .ref q7])), (q1, .inl (cy 0, 6, .inl fh)), (q2, .inl (cy 0, 30, .inl fd)), (q4, .inl (cy 0, 30, .inl fs))], w] : List va_W)) (x := xW cy xtb a S1577) 2 rfl rfl hDn
        refine kv_if_ne_f (tgt := 1594) hx hb (by omega) (by omega) (by omega) dL_law_1580 (by decide) ?_
        refine lv_aload_n hx hb dL_law_1583 rfl (lv_at hl 3 rfl) ?_
        refine lv_iconst (v := ki 4) hx hb dL_law_1584 rfl ?_
        refine lv_iconst (v := ki 1) hx hb dL_law_1585 rfl ?_
        obtain ⟨⟨S1586, v1586⟩, hf1586, hq1586⟩ := t_stack (S := S1577) hB (n := 4) (w := 1) (by omega) (by omega) (by omega)
        dsimp only at hq1586
        obtain ⟨hv9, hf9, hl9⟩ := hq1586
        subst hv9
        have hB := BX_q hB hf9 hl9
        have hi := iX_q hi hf9
        rw [show stS (daysN gn 4 η) 1 = hhS (daysN gn 4 η) from rfl] at hf1586
        have hPc := blk_P (bs := ([[(z0, .inr (12, [.ref b, .ref q1, .ref q2, .ref q3, .ref q4, .ref q5, .ref q6, .ref q7])), (q1, .inl (cy 0, 6, .inl fh)), (q2, .inl (cy 0, 30, .inl fd)), (q4, .inl (cy 0, 30, .inl fs))], w, xW cy xtb a S1577] : List va_W)) (rs := ([[(z0, .inr (12, [.ref b, .ref q1, .ref q2, .ref q3, .ref q4, .ref q5, .ref q6, .ref q7])), (q1, .inl (cy 0, 6, .inl fh)), (q2, .inl (cy 0, 30, .inl fd)), (q4, .inl (cy 0, 30, .inl fs))], w] : List va_W)) (x := xW cy xtb a S1577) 2 rfl rfl hP
        have hDc := blk_D (bs := ([[(z0, .inr (12, [.ref b, .ref q1, .ref q2, .ref q3, .ref q4, .ref q5, .ref q6, .ref q7])), (q1, .inl (cy 0, 6, .inl fh)), (q2, .inl (cy 0, 30, .inl fd)), (q4, .inl (cy 0, 30, .inl fs))], w, xW cy xtb a S1577] : List va_W)) (rs := ([[(z0, .inr (12, [.ref b, .ref q1, .ref q2, .ref q3, .ref q4, .ref q5, .ref q6, .ref q7])), (q1, .inl (cy 0, 6, .inl fh)), (q2, .inl (cy 0, 30, .inl fd)), (q4, .inl (cy 0, 30, .inl fs))], w] : List va_W)) (x := xW cy xtb a S1577) 2 rfl rfl hD
        refine lw_vi hx hb hml hown hts (K_sub hK) hEx hI hPc hDc hS hA (⟨xw_mem 477 (by decide +kernel) rfl, xw_mem 30 (by decide +kernel) rfl, xw_mem 474 (by decide +kernel) rfl, by decide +kernel⟩ : xML RL 84 yX11_stack cX11_stack 4 (some .int) 2) (xw_mem 475 (by decide +kernel) rfl) (xw_mem 476 (by decide +kernel) rfl) (he := rfl) (by decide) rfl [.int (ki 4), .int (ki 1)] (rest := []) (c_X11_stack hI hf1586 _) ⟨by omega, by omega⟩ ⟨by omega, by omega⟩ rfl hl.1 rfl (Nat.le_of_ble_eq_true (rfl)) dL_law_1586 (fun H locs hPn hS => ?_)
        have hDn := xD_st (S' := S1586) hDc
        have hP := blk_P2 (bs := ([[(z0, .inr (12, [.ref b, .ref q1, .ref q2, .ref q3, .ref q4, .ref q5, .ref q6, .ref q7])), (q1, .inl (cy 0, 6, .inl fh)), (q2, .inl (cy 0, 30, .inl fd)), (q4, .inl (cy 0, 30, .inl fs))], w, xW cy xtb a S1586] : List va_W)) (rs := ([[(z0, .inr (12, [.ref b, .ref q1, .ref q2, .ref q3, .ref q4, .ref q5, .ref q6, .ref q7])), (q1, .inl (cy 0, 6, .inl fh)), (q2, .inl (cy 0, 30, .inl fd)), (q4, .inl (cy 0, 30, .inl fs))], w] : List va_W)) (x := xW cy xtb a S1586) 2 rfl rfl hPn
        have hD := blk_D2 (bs := ([[(z0, .inr (12, [.ref b, .ref q1, .ref q2, .ref q3, .ref q4, .ref q5, .ref q6, .ref q7])), (q1, .inl (cy 0, 6, .inl fh)), (q2, .inl (cy 0, 30, .inl fd)), (q4, .inl (cy 0, 30, .inl fs))], w, xW cy xtb a S1586] : List va_W)) (rs := ([[(z0, .inr (12, [.ref b, .ref q1, .ref q2, .ref q3, .ref q4, .ref q5, .ref q6, .ref q7])), (q1, .inl (cy 0, 6, .inl fh)), (q2, .inl (cy 0, 30, .inl fd)), (q4, .inl (cy 0, 30, .inl fs))], w] : List va_W)) (x := xW cy xtb a S1586) 2 rfl rfl hDn
        refine lv_iload hx hb dL_law_1589 (lv_at hl 1 rfl) ?_
        refine kv_icmp_ge_t (tgt := 1596) hx hb (by omega) (by omega) (by omega) (by omega) (by omega) dL_law_1591 (by decide) ?_
        exact kk S1586 hB hi H _ ls (lv_sub hl [2, 3, 4, 5] rfl) hP hD hS
      · rw [ec] at hl
        refine lv_iload hx hb dL_law_1549 (lv_at hl 0 rfl) ?_
        refine lv_bipush (v := ki 6) hx hb dL_law_1551 rfl ?_
        refine kv_icmp_ge_f (tgt := 1565) hx hb (by omega) (by omega) (by omega) (by omega) (by omega) dL_law_1553 (by decide) ?_
        refine lv_aload_n hx hb dL_law_1556 rfl (lv_at hl 3 rfl) ?_
        refine lv_iload hx hb dL_law_1557 (lv_at hl 0 rfl) ?_
        obtain ⟨⟨S1559, v1559⟩, hf1559, hq1559⟩ := t_turned8 (S := S1520) (BX_8 hB) (c := (j : Int)) (by omega) (by omega)
        dsimp only at hq1559
        have hw1 := hwf.1 (j : Int)
        obtain ⟨hv9, hB, hf9⟩ := hq1559
        subst hv9
        have hi := iX_2 hi hf9
        have hPc := blk_P (bs := ([[(z0, .inr (12, [.ref b, .ref q1, .ref q2, .ref q3, .ref q4, .ref q5, .ref q6, .ref q7])), (q1, .inl (cy 0, 6, .inl fh)), (q2, .inl (cy 0, 30, .inl fd)), (q4, .inl (cy 0, 30, .inl fs))], w, xW cy xtb a S1520] : List va_W)) (rs := ([[(z0, .inr (12, [.ref b, .ref q1, .ref q2, .ref q3, .ref q4, .ref q5, .ref q6, .ref q7])), (q1, .inl (cy 0, 6, .inl fh)), (q2, .inl (cy 0, 30, .inl fd)), (q4, .inl (cy 0, 30, .inl fs))], w] : List va_W)) (x := xW cy xtb a S1520) 2 rfl rfl hP
        have hDc := blk_D (bs := ([[(z0, .inr (12, [.ref b, .ref q1, .ref q2, .ref q3, .ref q4, .ref q5, .ref q6, .ref q7])), (q1, .inl (cy 0, 6, .inl fh)), (q2, .inl (cy 0, 30, .inl fd)), (q4, .inl (cy 0, 30, .inl fs))], w, xW cy xtb a S1520] : List va_W)) (rs := ([[(z0, .inr (12, [.ref b, .ref q1, .ref q2, .ref q3, .ref q4, .ref q5, .ref q6, .ref q7])), (q1, .inl (cy 0, 6, .inl fh)), (q2, .inl (cy 0, 30, .inl fd)), (q4, .inl (cy 0, 30, .inl fs))], w] : List va_W)) (x := xW cy xtb a S1520) 2 rfl rfl hD
        refine lw_vi hx hb hml hown hts (K_sub hK) hEx hI hPc hDc hS hA (⟨xw_mem 757 (by decide +kernel) rfl, xw_mem 30 (by decide +kernel) rfl, xw_mem 754 (by decide +kernel) rfl, by decide +kernel⟩ : xML RL 171 yX11_turned cX11_turned 2 (some .int) 1) (xw_mem 755 (by decide +kernel) rfl) (xw_mem 756 (by decide +kernel) rfl) (he := rfl) (by decide) rfl [.int (ki (j : Int))] (rest := []) (c_X11_turned hI hf1559 _) ⟨by omega, by omega⟩ ⟨by omega, by omega⟩ rfl hl.1 rfl (Nat.le_of_ble_eq_true (rfl)) dL_law_1559 (fun H locs hPn hS => ?_)
        have hDn := xD_st (S' := S1559) hDc
        have hP := blk_P2 (bs := ([[(z0, .inr (12, [.ref b, .ref q1, .ref q2, .ref q3, .ref q4, .ref q5, .ref q6, .ref q7])), (q1, .inl (cy 0, 6, .inl fh)), (q2, .inl (cy 0, 30, .inl fd)), (q4, .inl (cy 0, 30, .inl fs))], w, xW cy xtb a S1559] : List va_W)) (rs := ([[(z0, .inr (12, [.ref b, .ref q1, .ref q2, .ref q3, .ref q4, .ref q5, .ref q6, .ref q7])), (q1, .inl (cy 0, 6, .inl fh)), (q2, .inl (cy 0, 30, .inl fd)), (q4, .inl (cy 0, 30, .inl fs))], w] : List va_W)) (x := xW cy xtb a S1559) 2 rfl rfl hPn
        have hD := blk_D2 (bs := ([[(z0, .inr (12, [.ref b, .ref q1, .ref q2, .ref q3, .ref q4, .ref q5, .ref q6, .ref q7])), (q1, .inl (cy 0, 6, .inl fh)), (q2, .inl (cy 0, 30, .inl fd)), (q4, .inl (cy 0, 30, .inl fs))], w, xW cy xtb a S1559] : List va_W)) (rs := ([[(z0, .inr (12, [.ref b, .ref q1, .ref q2, .ref q3, .ref q4, .ref q5, .ref q6, .ref q7])), (q1, .inl (cy 0, 6, .inl fh)), (q2, .inl (cy 0, 30, .inl fd)), (q4, .inl (cy 0, 30, .inl fs))], w] : List va_W)) (x := xW cy xtb a S1559) 2 rfl rfl hDn
        refine kv_if_lt_f (tgt := 1594) hx hb (by omega) (by omega) (by omega) dL_law_1562 (by decide) ?_
        refine lv_aload_n hx hb dL_law_1565 rfl (lv_at hl 3 rfl) ?_
        refine lv_iconst (v := ki 4) hx hb dL_law_1566 rfl ?_
        refine lv_iconst (v := ki 1) hx hb dL_law_1567 rfl ?_
        obtain ⟨⟨S1568, v1568⟩, hf1568, hq1568⟩ := t_stack8 (S := S1559) hB (n := 4) (w := 1) (by omega) (by omega) (by omega)
        dsimp only at hq1568
        obtain ⟨hv9, hf9, hl9⟩ := hq1568
        subst hv9
        have hB := BX_q hB hf9 hl9
        have hi := iX_q hi hf9
        rw [show stS (daysN gn 4 (turS j η)) 1 = t from ev] at hf1568
        have h2z : turS j η 2 = η 2 := rfl
        have h10z : turS j η 0 10 = η 0 10 := rfl
        have hPc := blk_P (bs := ([[(z0, .inr (12, [.ref b, .ref q1, .ref q2, .ref q3, .ref q4, .ref q5, .ref q6, .ref q7])), (q1, .inl (cy 0, 6, .inl fh)), (q2, .inl (cy 0, 30, .inl fd)), (q4, .inl (cy 0, 30, .inl fs))], w, xW cy xtb a S1559] : List va_W)) (rs := ([[(z0, .inr (12, [.ref b, .ref q1, .ref q2, .ref q3, .ref q4, .ref q5, .ref q6, .ref q7])), (q1, .inl (cy 0, 6, .inl fh)), (q2, .inl (cy 0, 30, .inl fd)), (q4, .inl (cy 0, 30, .inl fs))], w] : List va_W)) (x := xW cy xtb a S1559) 2 rfl rfl hP
        have hDc := blk_D (bs := ([[(z0, .inr (12, [.ref b, .ref q1, .ref q2, .ref q3, .ref q4, .ref q5, .ref q6, .ref q7])), (q1, .inl (cy 0, 6, .inl fh)), (q2, .inl (cy 0, 30, .inl fd)), (q4, .inl (cy 0, 30, .inl fs))], w, xW cy xtb a S1559] : List va_W)) (rs := ([[(z0, .inr (12, [.ref b, .ref q1, .ref q2, .ref q3, .ref q4, .ref q5, .ref q6, .ref q7])), (q1, .inl (cy 0, 6, .inl fh)), (q2, .inl (cy 0, 30, .inl fd)), (q4, .inl (cy 0, 30, .inl fs))], w] : List va_W)) (x := xW cy xtb a S1559) 2 rfl rfl hD
        refine lw_vi hx hb hml hown hts (K_sub hK) hEx hI hPc hDc hS hA (⟨xw_mem 477 (by decide +kernel) rfl, xw_mem 30 (by decide +kernel) rfl, xw_mem 474 (by decide +kernel) rfl, by decide +kernel⟩ : xML RL 84 yX11_stack cX11_stack 4 (some .int) 2) (xw_mem 475 (by decide +kernel) rfl) (xw_mem 476 (by decide +kernel) rfl) (he := rfl) (by decide) rfl [.int (ki 4), .int (ki 1)] (rest := []) (c_X11_stack hI hf1568 _) ⟨by omega, by omega⟩ ⟨by omega, by omega⟩ rfl hl.1 rfl (Nat.le_of_ble_eq_true (rfl)) dL_law_1568 (fun H locs hPn hS => ?_)
        have hDn := xD_st (S' := S1568) hDc
        have hP := blk_P2 (bs := ([[(z0, .inr (12, [.ref b, .ref q1, .ref q2, .ref q3, .ref q4, .ref q5, .ref q6, .ref q7])), (q1, .inl (cy 0, 6, .inl fh)), (q2, .inl (cy 0, 30, .inl fd)), (q4, .inl (cy 0, 30, .inl fs))], w, xW cy xtb a S1568] : List va_W)) (rs := ([[(z0, .inr (12, [.ref b, .ref q1, .ref q2, .ref q3, .ref q4, .ref q5, .ref q6, .ref q7])), (q1, .inl (cy 0, 6, .inl fh)), (q2, .inl (cy 0, 30, .inl fd)), (q4, .inl (cy 0, 30, .inl fs))], w] : List va_W)) (x := xW cy xtb a S1568) 2 rfl rfl hPn
        have hD := blk_D2 (bs := ([[(z0, .inr (12, [.ref b, .ref q1, .ref q2, .ref q3, .ref q4, .ref q5, .ref q6, .ref q7])), (q1, .inl (cy 0, 6, .inl fh)), (q2, .inl (cy 0, 30, .inl fd)), (q4, .inl (cy 0, 30, .inl fs))], w, xW cy xtb a S1568] : List va_W)) (rs := ([[(z0, .inr (12, [.ref b, .ref q1, .ref q2, .ref q3, .ref q4, .ref q5, .ref q6, .ref q7])), (q1, .inl (cy 0, 6, .inl fh)), (q2, .inl (cy 0, 30, .inl fd)), (q4, .inl (cy 0, 30, .inl fs))], w] : List va_W)) (x := xW cy xtb a S1568) 2 rfl rfl hDn
        refine lv_iload hx hb dL_law_1571 (lv_at hl 1 rfl) ?_
        refine kv_icmp_ne_f (tgt := 1594) hx hb rfl (by omega) (by omega) (by omega) (by omega) dL_law_1573 (by decide) ?_
        refine lv_aload_n hx hb dL_law_1576 rfl (lv_at hl 3 rfl) ?_
        obtain ⟨⟨S1577, v1577⟩, hf1577, hq1577⟩ := t_back8 (S := S1568) hB hi hwf h2z h10z
        dsimp only at hq1577
        obtain ⟨hv9, hB, hi⟩ := hq1577
        subst hv9
        rw [hE.2.2.2] at hf1577
        have hPc := blk_P (bs := ([[(z0, .inr (12, [.ref b, .ref q1, .ref q2, .ref q3, .ref q4, .ref q5, .ref q6, .ref q7])), (q1, .inl (cy 0, 6, .inl fh)), (q2, .inl (cy 0, 30, .inl fd)), (q4, .inl (cy 0, 30, .inl fs))], w, xW cy xtb a S1568] : List va_W)) (rs := ([[(z0, .inr (12, [.ref b, .ref q1, .ref q2, .ref q3, .ref q4, .ref q5, .ref q6, .ref q7])), (q1, .inl (cy 0, 6, .inl fh)), (q2, .inl (cy 0, 30, .inl fd)), (q4, .inl (cy 0, 30, .inl fs))], w] : List va_W)) (x := xW cy xtb a S1568) 2 rfl rfl hP
        have hDc := blk_D (bs := ([[(z0, .inr (12, [.ref b, .ref q1, .ref q2, .ref q3, .ref q4, .ref q5, .ref q6, .ref q7])), (q1, .inl (cy 0, 6, .inl fh)), (q2, .inl (cy 0, 30, .inl fd)), (q4, .inl (cy 0, 30, .inl fs))], w, xW cy xtb a S1568] : List va_W)) (rs := ([[(z0, .inr (12, [.ref b, .ref q1, .ref q2, .ref q3, .ref q4, .ref q5, .ref q6, .ref q7])), (q1, .inl (cy 0, 6, .inl fh)), (q2, .inl (cy 0, 30, .inl fd)), (q4, .inl (cy 0, 30, .inl fs))], w] : List va_W)) (x := xW cy xtb a S1568) 2 rfl rfl hD
        refine lw_vi hx hb hml hown hts (K_sub hK) hEx hI hPc hDc hS hA (⟨xw_mem 781 (by decide +kernel) rfl, xw_mem 30 (by decide +kernel) rfl, xw_mem 778 (by decide +kernel) rfl, by decide +kernel⟩ : xML RL 114 yX11_back cX11_back 1 (some .int) 0) (xw_mem 779 (by decide +kernel) rfl) (xw_mem 780 (by decide +kernel) rfl) (he := rfl) (by decide) rfl [] (rest := []) (c_X11_back hI hf1577 _) ⟨by omega, by omega⟩ ⟨by omega, by omega⟩ rfl hl.1 rfl (Nat.le_of_ble_eq_true (rfl)) dL_law_1577 (fun H locs hPn hS => ?_)
        have hDn := xD_st (S' := S1577) hDc
        have hP := blk_P2 (bs := ([[(z0, .inr (12, [.ref b, .ref q1, .ref q2, .ref q3, .ref q4, .ref q5, .ref q6, .ref q7])), (q1, .inl (cy 0, 6, .inl fh)), (q2, .inl (cy 0, 30, .inl fd)), (q4, .inl (cy 0, 30, .inl fs))], w, xW cy xtb a S1577] : List va_W)) (rs := ([[(z0, .inr (12, [.ref b, .ref q1, .ref q2, .ref q3, .ref q4, .ref q5, .ref q6, .ref q7])), (q1, .inl (cy 0, 6, .inl fh)), (q2, .inl (cy 0, 30, .inl fd)), (q4, .inl (cy 0, 30, .inl fs))], w] : List va_W)) (x := xW cy xtb a S1577) 2 rfl rfl hPn
        have hD := blk_D2 (bs := ([[(z0, .inr (12, [.ref b, .ref q1, .ref q2, .ref q3, .ref q4, .ref q5, .ref q6, .ref q7])), (q1, .inl (cy 0, 6, .inl fh)), (q2, .inl (cy 0, 30, .inl fd)), (q4, .inl (cy 0, 30, .inl fs))], w, xW cy xtb a S1577] : List va_W)) (rs := ([[(z0, .inr (12, [.ref b, .ref q1, .ref q2, .ref q3, .ref q4, .ref q5, .ref q6, .ref q7])), (q1, .inl (cy 0, 6, .inl fh)), (q2, .inl (cy 0, 30, .inl fd)), (q4, .inl (cy 0, 30, .inl fs))], w] : List va_W)) (x := xW cy xtb a S1577) 2 rfl rfl hDn
        refine kv_if_ne_f (tgt := 1594) hx hb (by omega) (by omega) (by omega) dL_law_1580 (by decide) ?_
        refine lv_aload_n hx hb dL_law_1583 rfl (lv_at hl 3 rfl) ?_
        refine lv_iconst (v := ki 4) hx hb dL_law_1584 rfl ?_
        refine lv_iconst (v := ki 1) hx hb dL_law_1585 rfl ?_
        obtain ⟨⟨S1586, v1586⟩, hf1586, hq1586⟩ := t_stack (S := S1577) hB (n := 4) (w := 1) (by omega) (by omega) (by omega)
        dsimp only at hq1586
        obtain ⟨hv9, hf9, hl9⟩ := hq1586
        subst hv9
        have hB := BX_q hB hf9 hl9
        have hi := iX_q hi hf9
        rw [show stS (daysN gn 4 η) 1 = hhS (daysN gn 4 η) from rfl] at hf1586
        have hPc := blk_P (bs := ([[(z0, .inr (12, [.ref b, .ref q1, .ref q2, .ref q3, .ref q4, .ref q5, .ref q6, .ref q7])), (q1, .inl (cy 0, 6, .inl fh)), (q2, .inl (cy 0, 30, .inl fd)), (q4, .inl (cy 0, 30, .inl fs))], w, xW cy xtb a S1577] : List va_W)) (rs := ([[(z0, .inr (12, [.ref b, .ref q1, .ref q2, .ref q3, .ref q4, .ref q5, .ref q6, .ref q7])), (q1, .inl (cy 0, 6, .inl fh)), (q2, .inl (cy 0, 30, .inl fd)), (q4, .inl (cy 0, 30, .inl fs))], w] : List va_W)) (x := xW cy xtb a S1577) 2 rfl rfl hP
        have hDc := blk_D (bs := ([[(z0, .inr (12, [.ref b, .ref q1, .ref q2, .ref q3, .ref q4, .ref q5, .ref q6, .ref q7])), (q1, .inl (cy 0, 6, .inl fh)), (q2, .inl (cy 0, 30, .inl fd)), (q4, .inl (cy 0, 30, .inl fs))], w, xW cy xtb a S1577] : List va_W)) (rs := ([[(z0, .inr (12, [.ref b, .ref q1, .ref q2, .ref q3, .ref q4, .ref q5, .ref q6, .ref q7])), (q1, .inl (cy 0, 6, .inl fh)), (q2, .inl (cy 0, 30, .inl fd)), (q4, .inl (cy 0, 30, .inl fs))], w] : List va_W)) (x := xW cy xtb a S1577) 2 rfl rfl hD
        refine lw_vi hx hb hml hown hts (K_sub hK) hEx hI hPc hDc hS hA (⟨xw_mem 477 (by decide +kernel) rfl, xw_mem 30 (by decide +kernel) rfl, xw_mem 474 (by decide +kernel) rfl, by decide +kernel⟩ : xML RL 84 yX11_stack cX11_stack 4 (some .int) 2) (xw_mem 475 (by decide +kernel) rfl) (xw_mem 476 (by decide +kernel) rfl) (he := rfl) (by decide) rfl [.int (ki 4), .int (ki 1)] (rest := []) (c_X11_stack hI hf1586 _) ⟨by omega, by omega⟩ ⟨by omega, by omega⟩ rfl hl.1 rfl (Nat.le_of_ble_eq_true (rfl)) dL_law_1586 (fun H locs hPn hS => ?_)
        have hDn := xD_st (S' := S1586) hDc
        have hP := blk_P2 (bs := ([[(z0, .inr (12, [.ref b, .ref q1, .ref q2, .ref q3, .ref q4, .ref q5, .ref q6, .ref q7])), (q1, .inl (cy 0, 6, .inl fh)), (q2, .inl (cy 0, 30, .inl fd)), (q4, .inl (cy 0, 30, .inl fs))], w, xW cy xtb a S1586] : List va_W)) (rs := ([[(z0, .inr (12, [.ref b, .ref q1, .ref q2, .ref q3, .ref q4, .ref q5, .ref q6, .ref q7])), (q1, .inl (cy 0, 6, .inl fh)), (q2, .inl (cy 0, 30, .inl fd)), (q4, .inl (cy 0, 30, .inl fs))], w] : List va_W)) (x := xW cy xtb a S1586) 2 rfl rfl hPn
        have hD := blk_D2 (bs := ([[(z0, .inr (12, [.ref b, .ref q1, .ref q2, .ref q3, .ref q4, .ref q5, .ref q6, .ref q7])), (q1, .inl (cy 0, 6, .inl fh)), (q2, .inl (cy 0, 30, .inl fd)), (q4, .inl (cy 0, 30, .inl fs))], w, xW cy xtb a S1586] : List va_W)) (rs := ([[(z0, .inr (12, [.ref b, .ref q1, .ref q2, .ref q3, .ref q4, .ref q5, .ref q6, .ref q7])), (q1, .inl (cy 0, 6, .inl fh)), (q2, .inl (cy 0, 30, .inl fd)), (q4, .inl (cy 0, 30, .inl fs))], w] : List va_W)) (x := xW cy xtb a S1586) 2 rfl rfl hDn
        refine lv_iload hx hb dL_law_1589 (lv_at hl 1 rfl) ?_
        refine kv_icmp_ge_t (tgt := 1596) hx hb (by omega) (by omega) (by omega) (by omega) (by omega) dL_law_1591 (by decide) ?_
        exact kk S1586 hB hi H _ ls (lv_sub hl [2, 3, 4, 5] rfl) hP hD hS
end LAW
