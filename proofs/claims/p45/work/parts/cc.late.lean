/-! part cc: the law asks latest (made by wip/p45/gen_cc.py) -/
section LAW
variable {l : Launch} {D : va_G} {cy : Nat → ClassId} {mi zE zc : Nat} {ad z a : Nat → Nat} {b L : Nat} {xs : Nat → Int32}
variable {p : Program} {e : Env} {R : Room} {s : State} {m : MethodId} {args : Array Value} {below : List Frame} {meth : Method} {c : Code} {Q : State → Prop} {A : Nat → Prop}
variable {z0 q1 q2 q3 q4 q5 q6 q7 y : Nat} {fh fd fs : Nat → Int32} {w : va_W} {gn : (Int → Int) → Int} {η : Hy} {S : xSt} {k n : Nat}
set_option maxHeartbeats 2000000 in
set_option maxRecDepth 20000 in
theorem LA_1 (hx : p.tables.exec = Jvm.exec) (hb : c.code = cL_law) (hml : c.maxLocals = 21) (hown : s.vm.findClass RL = some m.cls) (hts : ∀ w ∈ xTB, w.before args s = true) (hK : va_K D vwCl (xtyL cy) s) (hN : jN mi s) (hZ : jZ zE zc ad A s s.heap) (hX : va_X b L xs s s.heap) (hbl : b < s.heap.size) (hbA : ¬ A b) (hNs : nS s) (hEx : xEx z A s s.heap) (hA : ∀ q, s.heap.size ≤ q → A q) (hI : xI xtb a) (hR : 100 ≤ R.frames ∧ 4000 ≤ R.locals ∧ 600000 ≤ R.cells ∧ 7302250 ≤ R.slots) (hL : L ≤ 1000) (hF : nF s) (hkn : k ≤ R.cells ∧ n ≤ R.slots) {j : Nat} (kk : ∀ (S1 : xSt) (t : Int) (hB : BX η gn S1) (hi : iX η S1) (ht9 : t = 0 ∨ t = 1) (hq9 : ∀ j : Nat, j < 41 → 0 < glowS (daysN gn j η) → t = 1) (H : Heap) (locs : List Loc) (ls : Array Slot), lv_has ls 21 [(0, .ref b), (1, .ref (a 0)), (2, .ref z0), (3, .ref y), (14, .int (ki (j : Int))), (15, .int (ki t))] → va_P D vwCl (List.flatten [[(z0, .inr (12, [.ref b, .ref q1, .ref q2, .ref q3, .ref q4, .ref q5, .ref q6, .ref q7])), (q1, .inl (cy 0, 6, .inl fh)), (q2, .inl (cy 0, 30, .inl fd)), (q4, .inl (cy 0, 30, .inl fs))], w, xW cy xtb a S1]) H → va_D A (List.flatten [[(z0, .inr (12, [.ref b, .ref q1, .ref q2, .ref q3, .ref q4, .ref q5, .ref q6, .ref q7])), (q1, .inl (cy 0, 6, .inl fh)), (q2, .inl (cy 0, 30, .inl fd)), (q4, .inl (cy 0, 30, .inl fs))], w, xW cy xtb a S1]) → va_S A s.heap H locs → W p l e R s m args below meth c H locs k n Q (F0 m 1028 ls [])) : ∀ (d i : Nat), i + d = 41 → ∀ (S1 : xSt) (t : Int) (hB : BX η gn S1) (hi : iX η S1) (ht9 : t = 0 ∨ t = 1) (hq9 : ∀ j : Nat, j < i → 0 < glowS (daysN gn j η) → t = 1) (H : Heap) (locs : List Loc) (ls : Array Slot), lv_has ls 21 [(0, .ref b), (1, .ref (a 0)), (2, .ref z0), (3, .ref y), (14, .int (ki (j : Int))), (15, .int (ki t)), (16, .int (ki (i : Int)))] → va_P D vwCl (List.flatten [[(z0, .inr (12, [.ref b, .ref q1, .ref q2, .ref q3, .ref q4, .ref q5, .ref q6, .ref q7])), (q1, .inl (cy 0, 6, .inl fh)), (q2, .inl (cy 0, 30, .inl fd)), (q4, .inl (cy 0, 30, .inl fs))], w, xW cy xtb a S1]) H → va_D A (List.flatten [[(z0, .inr (12, [.ref b, .ref q1, .ref q2, .ref q3, .ref q4, .ref q5, .ref q6, .ref q7])), (q1, .inl (cy 0, 6, .inl fh)), (q2, .inl (cy 0, 30, .inl fd)), (q4, .inl (cy 0, 30, .inl fs))], w, xW cy xtb a S1]) → va_S A s.heap H locs → W p l e R s m args below meth c H locs k n Q (F0 m 995 ls []) := by
  intro d
  induction d with
  | zero =>
    intro i hix S1 t hB hi ht9 hq9 H locs ls hl hP hD hS
    have hix : 41 = i := by omega
    subst hix
    refine lv_iload hx hb dL_law_995 (lv_at hl 6 rfl) ?_
    refine lv_bipush (v := ki 41) hx hb dL_law_997 rfl ?_
    refine kv_icmp_ge_t (tgt := 1028) hx hb (by omega) (by omega) (by omega) (by omega) (by omega) dL_law_999 (by decide) ?_
    exact kk S1 t hB hi ht9 hq9 H _ ls (lv_sub hl [0, 1, 2, 3, 4, 5] rfl) hP hD hS
  | succ d ih =>
    intro i hix S1 t hB hi ht9 hq9 H locs ls hl hP hD hS
    refine lv_iload hx hb dL_law_995 (lv_at hl 6 rfl) ?_
    refine lv_bipush (v := ki 41) hx hb dL_law_997 rfl ?_
    refine kv_icmp_ge_f (tgt := 1028) hx hb (by omega) (by omega) (by omega) (by omega) (by omega) dL_law_999 (by decide) ?_
    refine lv_iload hx hb dL_law_1002 (lv_at hl 5 rfl) ?_
    refine lv_aload_n hx hb dL_law_1004 rfl (lv_at hl 1 rfl) ?_
    refine lv_iload hx hb dL_law_1005 (lv_at hl 6 rfl) ?_
    refine lv_iconst (v := ki 2) hx hb dL_law_1007 rfl ?_
    obtain ⟨⟨S1008, v1008⟩, hf1008, hq1008⟩ := t_stack (S := S1) hB (n := i) (w := 2) (by omega) (by omega) (by omega)
    dsimp only at hq1008
    obtain ⟨hv9, hf9, hl9⟩ := hq1008
    subst hv9
    have hB := BX_q hB hf9 hl9
    have hi := iX_q hi hf9
    rw [show stS (daysN gn i η) 2 = glowS (daysN gn i η) from rfl] at hf1008
    have hgb := glowS_b (daysN gn i η)
    have hPc := blk_P (bs := ([[(z0, .inr (12, [.ref b, .ref q1, .ref q2, .ref q3, .ref q4, .ref q5, .ref q6, .ref q7])), (q1, .inl (cy 0, 6, .inl fh)), (q2, .inl (cy 0, 30, .inl fd)), (q4, .inl (cy 0, 30, .inl fs))], w, xW cy xtb a S1] : List va_W)) (rs := ([[(z0, .inr (12, [.ref b, .ref q1, .ref q2, .ref q3, .ref q4, .ref q5, .ref q6, .ref q7])), (q1, .inl (cy 0, 6, .inl fh)), (q2, .inl (cy 0, 30, .inl fd)), (q4, .inl (cy 0, 30, .inl fs))], w] : List va_W)) (x := xW cy xtb a S1) 2 rfl rfl hP
    have hDc := blk_D (bs := ([[(z0, .inr (12, [.ref b, .ref q1, .ref q2, .ref q3, .ref q4, .ref q5, .ref q6, .ref q7])), (q1, .inl (cy 0, 6, .inl fh)), (q2, .inl (cy 0, 30, .inl fd)), (q4, .inl (cy 0, 30, .inl fs))], w, xW cy xtb a S1] : List va_W)) (rs := ([[(z0, .inr (12, [.ref b, .ref q1, .ref q2, .ref q3, .ref q4, .ref q5, .ref q6, .ref q7])), (q1, .inl (cy 0, 6, .inl fh)), (q2, .inl (cy 0, 30, .inl fd)), (q4, .inl (cy 0, 30, .inl fs))], w] : List va_W)) (x := xW cy xtb a S1) 2 rfl rfl hD
    refine lw_vi hx hb hml hown hts (K_sub hK) hEx hI hPc hDc hS hA (⟨xw_mem 477 (by decide +kernel) rfl, xw_mem 30 (by decide +kernel) rfl, xw_mem 474 (by decide +kernel) rfl, by decide +kernel⟩ : xML RL 84 yX11_stack cX11_stack 4 (some .int) 2) (xw_mem 475 (by decide +kernel) rfl) (xw_mem 476 (by decide +kernel) rfl) (he := rfl) (by decide) rfl [.int (ki (i : Int)), .int (ki 2)] (rest := [.int (ki t)]) (c_X11_stack hI hf1008 _) ⟨by omega, by omega⟩ ⟨by omega, by omega⟩ rfl hl.1 rfl (Nat.le_of_ble_eq_true (rfl)) dL_law_1008 (fun H locs hPn hS => ?_)
    have hDn := xD_st (S' := S1008) hDc
    have hP := blk_P2 (bs := ([[(z0, .inr (12, [.ref b, .ref q1, .ref q2, .ref q3, .ref q4, .ref q5, .ref q6, .ref q7])), (q1, .inl (cy 0, 6, .inl fh)), (q2, .inl (cy 0, 30, .inl fd)), (q4, .inl (cy 0, 30, .inl fs))], w, xW cy xtb a S1008] : List va_W)) (rs := ([[(z0, .inr (12, [.ref b, .ref q1, .ref q2, .ref q3, .ref q4, .ref q5, .ref q6, .ref q7])), (q1, .inl (cy 0, 6, .inl fh)), (q2, .inl (cy 0, 30, .inl fd)), (q4, .inl (cy 0, 30, .inl fs))], w] : List va_W)) (x := xW cy xtb a S1008) 2 rfl rfl hPn
    have hD := blk_D2 (bs := ([[(z0, .inr (12, [.ref b, .ref q1, .ref q2, .ref q3, .ref q4, .ref q5, .ref q6, .ref q7])), (q1, .inl (cy 0, 6, .inl fh)), (q2, .inl (cy 0, 30, .inl fd)), (q4, .inl (cy 0, 30, .inl fs))], w, xW cy xtb a S1008] : List va_W)) (rs := ([[(z0, .inr (12, [.ref b, .ref q1, .ref q2, .ref q3, .ref q4, .ref q5, .ref q6, .ref q7])), (q1, .inl (cy 0, 6, .inl fh)), (q2, .inl (cy 0, 30, .inl fd)), (q4, .inl (cy 0, 30, .inl fs))], w] : List va_W)) (x := xW cy xtb a S1008) 2 rfl rfl hDn
    refine kv_if_le (tgt := 1018) hx hb (by omega) (by omega) dL_law_1011 (by decide) (fun hg9 => ?_) (fun hg9 => ?_)
    · refine lv_iconst (v := ki 0) hx hb dL_law_1018 rfl ?_
      refine lv_ior hx hb dL_law_1019 ?_
      rw [show ki t ||| ki 0 = ki t from by rcases ht9 with rfl | rfl <;> rfl]
      refine lv_istore (lv' := [(15, .int (ki t)), (0, .ref b), (1, .ref (a 0)), (2, .ref z0), (3, .ref y), (14, .int (ki (j : Int))), (16, .int (ki (i : Int)))]) hx hb dL_law_1020 hl (by decide) rfl (fun ls hl => ?_)
      refine lv_iinc (v := ki ((i + 1 : Nat) : Int)) (lv' := [(16, .int (ki ((i + 1 : Nat) : Int))), (15, .int (ki t)), (0, .ref b), (1, .ref (a 0)), (2, .ref z0), (3, .ref y), (14, .int (ki (j : Int)))]) hx hb dL_law_1022 hl (k := 6) rfl ((ki_add _ _).trans (congrArg ki (by omega))) (by decide) rfl (fun ls hl => ?_)
      refine lv_goto (tgt := 995) hx hb dL_law_1025 (by decide) ?_
      exact ih (i + 1) (by omega) _ t hB hi ht9 (fun q hq hg => by
        by_cases e : q = i
        · subst e; omega
        · exact hq9 q (by omega) hg) H _ ls (lv_sub hl [2, 3, 4, 5, 6, 1, 0] rfl) hP hD hS
    · refine lv_iconst (v := ki 1) hx hb dL_law_1014 rfl ?_
      refine lv_goto (tgt := 1019) hx hb dL_law_1015 (by decide) ?_
      refine lv_ior hx hb dL_law_1019 ?_
      rw [show ki t ||| ki 1 = ki 1 from by rcases ht9 with rfl | rfl <;> rfl]
      refine lv_istore (lv' := [(15, .int (ki 1)), (0, .ref b), (1, .ref (a 0)), (2, .ref z0), (3, .ref y), (14, .int (ki (j : Int))), (16, .int (ki (i : Int)))]) hx hb dL_law_1020 hl (by decide) rfl (fun ls hl => ?_)
      refine lv_iinc (v := ki ((i + 1 : Nat) : Int)) (lv' := [(16, .int (ki ((i + 1 : Nat) : Int))), (15, .int (ki 1)), (0, .ref b), (1, .ref (a 0)), (2, .ref z0), (3, .ref y), (14, .int (ki (j : Int)))]) hx hb dL_law_1022 hl (k := 6) rfl ((ki_add _ _).trans (congrArg ki (by omega))) (by decide) rfl (fun ls hl => ?_)
      refine lv_goto (tgt := 995) hx hb dL_law_1025 (by decide) ?_
      exact ih (i + 1) (by omega) _ 1 hB hi (Or.inr rfl) (fun q hq hg => rfl) H _ ls (lv_sub hl [2, 3, 4, 5, 6, 1, 0] rfl) hP hD hS
set_option maxHeartbeats 2000000 in
set_option maxRecDepth 20000 in
theorem LA_2 (hx : p.tables.exec = Jvm.exec) (hb : c.code = cL_law) (hml : c.maxLocals = 21) (hown : s.vm.findClass RL = some m.cls) (hts : ∀ w ∈ xTB, w.before args s = true) (hK : va_K D vwCl (xtyL cy) s) (hN : jN mi s) (hZ : jZ zE zc ad A s s.heap) (hX : va_X b L xs s s.heap) (hbl : b < s.heap.size) (hbA : ¬ A b) (hNs : nS s) (hEx : xEx z A s s.heap) (hA : ∀ q, s.heap.size ≤ q → A q) (hI : xI xtb a) (hR : 100 ≤ R.frames ∧ 4000 ≤ R.locals ∧ 600000 ≤ R.cells ∧ 7302250 ≤ R.slots) (hL : L ≤ 1000) (hF : nF s) (hkn : k ≤ R.cells ∧ n ≤ R.slots) {j : Nat} (hj : j ≤ 20) (hdk : ∀ i, i ≤ j → glowS (daysN gn i η) = 0) (kk : ∀ (S1 : xSt) (g : Int → Int) (hB : BX (uh (daysN gn j η) 8 g) gn S1) (hi : iX η S1) (H : Heap) (locs : List Loc) (ls : Array Slot), lv_has ls 21 [(0, .ref b), (1, .ref (a 0)), (2, .ref z0), (3, .ref y), (14, .int (ki (j : Int)))] → va_P D vwCl (List.flatten [[(z0, .inr (12, [.ref b, .ref q1, .ref q2, .ref q3, .ref q4, .ref q5, .ref q6, .ref q7])), (q1, .inl (cy 0, 6, .inl fh)), (q2, .inl (cy 0, 30, .inl fd)), (q4, .inl (cy 0, 30, .inl fs))], w, xW cy xtb a S1]) H → va_D A (List.flatten [[(z0, .inr (12, [.ref b, .ref q1, .ref q2, .ref q3, .ref q4, .ref q5, .ref q6, .ref q7])), (q1, .inl (cy 0, 6, .inl fh)), (q2, .inl (cy 0, 30, .inl fd)), (q4, .inl (cy 0, 30, .inl fs))], w, xW cy xtb a S1]) → va_S A s.heap H locs → W p l e R s m args below meth c H locs k n Q (F0 m 1060 ls [])) : ∀ (d i : Nat), i + d = j → ∀ (S1 : xSt) (g : Int → Int) (hB : BX (uh (daysN gn i η) 8 g) gn S1) (hi : iX η S1) (H : Heap) (locs : List Loc) (ls : Array Slot), lv_has ls 21 [(0, .ref b), (1, .ref (a 0)), (2, .ref z0), (3, .ref y), (14, .int (ki (j : Int))), (16, .int (ki (i : Int)))] → va_P D vwCl (List.flatten [[(z0, .inr (12, [.ref b, .ref q1, .ref q2, .ref q3, .ref q4, .ref q5, .ref q6, .ref q7])), (q1, .inl (cy 0, 6, .inl fh)), (q2, .inl (cy 0, 30, .inl fd)), (q4, .inl (cy 0, 30, .inl fs))], w, xW cy xtb a S1]) H → va_D A (List.flatten [[(z0, .inr (12, [.ref b, .ref q1, .ref q2, .ref q3, .ref q4, .ref q5, .ref q6, .ref q7])), (q1, .inl (cy 0, 6, .inl fh)), (q2, .inl (cy 0, 30, .inl fd)), (q4, .inl (cy 0, 30, .inl fs))], w, xW cy xtb a S1]) → va_S A s.heap H locs → W p l e R s m args below meth c H locs k n Q (F0 m 1038 ls []) := by
  intro d
  induction d with
  | zero =>
    intro i hix S1 g hB hi H locs ls hl hP hD hS
    have hix : j = i := by omega
    subst hix
    refine lv_iload hx hb dL_law_1038 (lv_at hl 5 rfl) ?_
    refine lv_iload hx hb dL_law_1040 (lv_at hl 4 rfl) ?_
    refine kv_icmp_ge_t (tgt := 1060) hx hb (by omega) (by omega) (by omega) (by omega) (by omega) dL_law_1042 (by decide) ?_
    exact kk S1 g hB hi H _ ls (lv_sub hl [0, 1, 2, 3, 4] rfl) hP hD hS
  | succ d ih =>
    intro i hix S1 g hB hi H locs ls hl hP hD hS
    refine lv_iload hx hb dL_law_1038 (lv_at hl 5 rfl) ?_
    refine lv_iload hx hb dL_law_1040 (lv_at hl 4 rfl) ?_
    refine kv_icmp_ge_f (tgt := 1060) hx hb (by omega) (by omega) (by omega) (by omega) (by omega) dL_law_1042 (by decide) ?_
    refine lv_aload_n hx hb dL_law_1045 rfl (lv_at hl 1 rfl) ?_
    obtain ⟨⟨S1046, v1046⟩, hf1046, hq1046⟩ := t_day8 (S := S1) hB
    dsimp only at hq1046
    obtain ⟨hv9, hB, hf9⟩ := hq1046
    subst hv9
    have hi := iX_2 hi hf9
    rw [show glowS (day1 gn (daysN gn i η)) = 0 from hdk (i + 1) (by omega)] at hf1046
    have hPc := blk_P (bs := ([[(z0, .inr (12, [.ref b, .ref q1, .ref q2, .ref q3, .ref q4, .ref q5, .ref q6, .ref q7])), (q1, .inl (cy 0, 6, .inl fh)), (q2, .inl (cy 0, 30, .inl fd)), (q4, .inl (cy 0, 30, .inl fs))], w, xW cy xtb a S1] : List va_W)) (rs := ([[(z0, .inr (12, [.ref b, .ref q1, .ref q2, .ref q3, .ref q4, .ref q5, .ref q6, .ref q7])), (q1, .inl (cy 0, 6, .inl fh)), (q2, .inl (cy 0, 30, .inl fd)), (q4, .inl (cy 0, 30, .inl fs))], w] : List va_W)) (x := xW cy xtb a S1) 2 rfl rfl hP
    have hDc := blk_D (bs := ([[(z0, .inr (12, [.ref b, .ref q1, .ref q2, .ref q3, .ref q4, .ref q5, .ref q6, .ref q7])), (q1, .inl (cy 0, 6, .inl fh)), (q2, .inl (cy 0, 30, .inl fd)), (q4, .inl (cy 0, 30, .inl fs))], w, xW cy xtb a S1] : List va_W)) (rs := ([[(z0, .inr (12, [.ref b, .ref q1, .ref q2, .ref q3, .ref q4, .ref q5, .ref q6, .ref q7])), (q1, .inl (cy 0, 6, .inl fh)), (q2, .inl (cy 0, 30, .inl fd)), (q4, .inl (cy 0, 30, .inl fs))], w] : List va_W)) (x := xW cy xtb a S1) 2 rfl rfl hD
    refine lw_vi hx hb hml hown hts (K_sub hK) hEx hI hPc hDc hS hA (⟨xw_mem 767 (by decide +kernel) rfl, xw_mem 30 (by decide +kernel) rfl, xw_mem 764 (by decide +kernel) rfl, by decide +kernel⟩ : xML RL 108 yX11_day cX11_day 1 (some .int) 0) (xw_mem 765 (by decide +kernel) rfl) (xw_mem 766 (by decide +kernel) rfl) (he := rfl) (by decide) rfl [] (rest := []) (c_X11_day hI hf1046 _) ⟨by omega, by omega⟩ ⟨by omega, by omega⟩ rfl hl.1 rfl (Nat.le_of_ble_eq_true (rfl)) dL_law_1046 (fun H locs hPn hS => ?_)
    have hDn := xD_st (S' := S1046) hDc
    have hP := blk_P2 (bs := ([[(z0, .inr (12, [.ref b, .ref q1, .ref q2, .ref q3, .ref q4, .ref q5, .ref q6, .ref q7])), (q1, .inl (cy 0, 6, .inl fh)), (q2, .inl (cy 0, 30, .inl fd)), (q4, .inl (cy 0, 30, .inl fs))], w, xW cy xtb a S1046] : List va_W)) (rs := ([[(z0, .inr (12, [.ref b, .ref q1, .ref q2, .ref q3, .ref q4, .ref q5, .ref q6, .ref q7])), (q1, .inl (cy 0, 6, .inl fh)), (q2, .inl (cy 0, 30, .inl fd)), (q4, .inl (cy 0, 30, .inl fs))], w] : List va_W)) (x := xW cy xtb a S1046) 2 rfl rfl hPn
    have hD := blk_D2 (bs := ([[(z0, .inr (12, [.ref b, .ref q1, .ref q2, .ref q3, .ref q4, .ref q5, .ref q6, .ref q7])), (q1, .inl (cy 0, 6, .inl fh)), (q2, .inl (cy 0, 30, .inl fd)), (q4, .inl (cy 0, 30, .inl fs))], w, xW cy xtb a S1046] : List va_W)) (rs := ([[(z0, .inr (12, [.ref b, .ref q1, .ref q2, .ref q3, .ref q4, .ref q5, .ref q6, .ref q7])), (q1, .inl (cy 0, 6, .inl fh)), (q2, .inl (cy 0, 30, .inl fd)), (q4, .inl (cy 0, 30, .inl fs))], w] : List va_W)) (x := xW cy xtb a S1046) 2 rfl rfl hDn
    refine kv_if_eq_t (tgt := 1054) hx hb (by omega) (by omega) (by omega) dL_law_1049 (by decide) ?_
    refine lv_iinc (v := ki ((i + 1 : Nat) : Int)) (lv' := [(16, .int (ki ((i + 1 : Nat) : Int))), (0, .ref b), (1, .ref (a 0)), (2, .ref z0), (3, .ref y), (14, .int (ki (j : Int)))]) hx hb dL_law_1054 hl (k := 5) rfl ((ki_add _ _).trans (congrArg ki (by omega))) (by decide) rfl (fun ls hl => ?_)
    refine lv_goto (tgt := 1038) hx hb dL_law_1057 (by decide) ?_
    exact ih (i + 1) (by omega) _ _ hB hi H _ ls (lv_sub hl [1, 2, 3, 4, 5, 0] rfl) hP hD hS
set_option maxHeartbeats 2000000 in
set_option maxRecDepth 20000 in
theorem LA_3 (hx : p.tables.exec = Jvm.exec) (hb : c.code = cL_law) (hml : c.maxLocals = 21) (hown : s.vm.findClass RL = some m.cls) (hts : ∀ w ∈ xTB, w.before args s = true) (hK : va_K D vwCl (xtyL cy) s) (hN : jN mi s) (hZ : jZ zE zc ad A s s.heap) (hX : va_X b L xs s s.heap) (hbl : b < s.heap.size) (hbA : ¬ A b) (hNs : nS s) (hEx : xEx z A s s.heap) (hA : ∀ q, s.heap.size ≤ q → A q) (hI : xI xtb a) (hR : 100 ≤ R.frames ∧ 4000 ≤ R.locals ∧ 600000 ≤ R.cells ∧ 7302250 ≤ R.slots) (hL : L ≤ 1000) (hF : nF s) (hkn : k ≤ R.cells ∧ n ≤ R.slots) {j : Nat} (kk : ∀ (S1 : xSt) (g : Int → Int) (hB : BX (uh (taS (daysN gn j η) 6) 8 g) gn S1) (hi : iX η S1) (H : Heap) (locs : List Loc) (ls : Array Slot), lv_has ls 21 [(0, .ref b), (1, .ref (a 0)), (2, .ref z0), (3, .ref y), (14, .int (ki (j : Int)))] → va_P D vwCl (List.flatten [[(z0, .inr (12, [.ref b, .ref q1, .ref q2, .ref q3, .ref q4, .ref q5, .ref q6, .ref q7])), (q1, .inl (cy 0, 6, .inl fh)), (q2, .inl (cy 0, 30, .inl fd)), (q4, .inl (cy 0, 30, .inl fs))], w, xW cy xtb a S1]) H → va_D A (List.flatten [[(z0, .inr (12, [.ref b, .ref q1, .ref q2, .ref q3, .ref q4, .ref q5, .ref q6, .ref q7])), (q1, .inl (cy 0, 6, .inl fh)), (q2, .inl (cy 0, 30, .inl fd)), (q4, .inl (cy 0, 30, .inl fs))], w, xW cy xtb a S1]) → va_S A s.heap H locs → W p l e R s m args below meth c H locs k n Q (F0 m 1097 ls [])) : ∀ (d i : Nat), i + d = 6 → ∀ (S1 : xSt) (g : Int → Int) (hB : BX (uh (taS (daysN gn j η) i) 8 g) gn S1) (hi : iX η S1) (H : Heap) (locs : List Loc) (ls : Array Slot), lv_has ls 21 [(0, .ref b), (1, .ref (a 0)), (2, .ref z0), (3, .ref y), (14, .int (ki (j : Int))), (16, .int (ki (i : Int)))] → va_P D vwCl (List.flatten [[(z0, .inr (12, [.ref b, .ref q1, .ref q2, .ref q3, .ref q4, .ref q5, .ref q6, .ref q7])), (q1, .inl (cy 0, 6, .inl fh)), (q2, .inl (cy 0, 30, .inl fd)), (q4, .inl (cy 0, 30, .inl fs))], w, xW cy xtb a S1]) H → va_D A (List.flatten [[(z0, .inr (12, [.ref b, .ref q1, .ref q2, .ref q3, .ref q4, .ref q5, .ref q6, .ref q7])), (q1, .inl (cy 0, 6, .inl fh)), (q2, .inl (cy 0, 30, .inl fd)), (q4, .inl (cy 0, 30, .inl fs))], w, xW cy xtb a S1]) → va_S A s.heap H locs → W p l e R s m args below meth c H locs k n Q (F0 m 1073 ls []) := by
  intro d
  induction d with
  | zero =>
    intro i hix S1 g hB hi H locs ls hl hP hD hS
    have hix : 6 = i := by omega
    subst hix
    refine lv_iload hx hb dL_law_1073 (lv_at hl 5 rfl) ?_
    refine lv_bipush (v := ki 6) hx hb dL_law_1075 rfl ?_
    refine kv_icmp_ge_t (tgt := 1097) hx hb (by omega) (by omega) (by omega) (by omega) (by omega) dL_law_1077 (by decide) ?_
    exact kk S1 g hB hi H _ ls (lv_sub hl [0, 1, 2, 3, 4] rfl) hP hD hS
  | succ d ih =>
    intro i hix S1 g hB hi H locs ls hl hP hD hS
    refine lv_iload hx hb dL_law_1073 (lv_at hl 5 rfl) ?_
    refine lv_bipush (v := ki 6) hx hb dL_law_1075 rfl ?_
    refine kv_icmp_ge_f (tgt := 1097) hx hb (by omega) (by omega) (by omega) (by omega) (by omega) dL_law_1077 (by decide) ?_
    refine lv_aload_n hx hb dL_law_1080 rfl (lv_at hl 1 rfl) ?_
    refine lv_iload hx hb dL_law_1081 (lv_at hl 5 rfl) ?_
    obtain ⟨⟨S1083, v1083⟩, hf1083, hq1083⟩ := t_turned8 (S := S1) hB (c := (i : Int)) (by omega) (by omega)
    dsimp only at hq1083
    have hw1 : 0 ≤ taS (daysN gn j η) i 1 (i : Int) ∧ taS (daysN gn j η) i 1 (i : Int) ≤ 5 := hB.1.1 (i : Int)
    obtain ⟨hv9, hB, hf9⟩ := hq1083
    subst hv9
    have hi := iX_2 hi hf9
    have hPc := blk_P (bs := ([[(z0, .inr (12, [.ref b, .ref q1, .ref q2, .ref q3, .ref q4, .ref q5, .ref q6, .ref q7])), (q1, .inl (cy 0, 6, .inl fh)), (q2, .inl (cy 0, 30, .inl fd)), (q4, .inl (cy 0, 30, .inl fs))], w, xW cy xtb a S1] : List va_W)) (rs := ([[(z0, .inr (12, [.ref b, .ref q1, .ref q2, .ref q3, .ref q4, .ref q5, .ref q6, .ref q7])), (q1, .inl (cy 0, 6, .inl fh)), (q2, .inl (cy 0, 30, .inl fd)), (q4, .inl (cy 0, 30, .inl fs))], w] : List va_W)) (x := xW cy xtb a S1) 2 rfl rfl hP
    have hDc := blk_D (bs := ([[(z0, .inr (12, [.ref b, .ref q1, .ref q2, .ref q3, .ref q4, .ref q5, .ref q6, .ref q7])), (q1, .inl (cy 0, 6, .inl fh)), (q2, .inl (cy 0, 30, .inl fd)), (q4, .inl (cy 0, 30, .inl fs))], w, xW cy xtb a S1] : List va_W)) (rs := ([[(z0, .inr (12, [.ref b, .ref q1, .ref q2, .ref q3, .ref q4, .ref q5, .ref q6, .ref q7])), (q1, .inl (cy 0, 6, .inl fh)), (q2, .inl (cy 0, 30, .inl fd)), (q4, .inl (cy 0, 30, .inl fs))], w] : List va_W)) (x := xW cy xtb a S1) 2 rfl rfl hD
    refine lw_vi hx hb hml hown hts (K_sub hK) hEx hI hPc hDc hS hA (⟨xw_mem 757 (by decide +kernel) rfl, xw_mem 30 (by decide +kernel) rfl, xw_mem 754 (by decide +kernel) rfl, by decide +kernel⟩ : xML RL 171 yX11_turned cX11_turned 2 (some .int) 1) (xw_mem 755 (by decide +kernel) rfl) (xw_mem 756 (by decide +kernel) rfl) (he := rfl) (by decide) rfl [.int (ki (i : Int))] (rest := []) (c_X11_turned hI hf1083 _) ⟨by omega, by omega⟩ ⟨by omega, by omega⟩ rfl hl.1 rfl (Nat.le_of_ble_eq_true (rfl)) dL_law_1083 (fun H locs hPn hS => ?_)
    have hDn := xD_st (S' := S1083) hDc
    have hP := blk_P2 (bs := ([[(z0, .inr (12, [.ref b, .ref q1, .ref q2, .ref q3, .ref q4, .ref q5, .ref q6, .ref q7])), (q1, .inl (cy 0, 6, .inl fh)), (q2, .inl (cy 0, 30, .inl fd)), (q4, .inl (cy 0, 30, .inl fs))], w, xW cy xtb a S1083] : List va_W)) (rs := ([[(z0, .inr (12, [.ref b, .ref q1, .ref q2, .ref q3, .ref q4, .ref q5, .ref q6, .ref q7])), (q1, .inl (cy 0, 6, .inl fh)), (q2, .inl (cy 0, 30, .inl fd)), (q4, .inl (cy 0, 30, .inl fs))], w] : List va_W)) (x := xW cy xtb a S1083) 2 rfl rfl hPn
    have hD := blk_D2 (bs := ([[(z0, .inr (12, [.ref b, .ref q1, .ref q2, .ref q3, .ref q4, .ref q5, .ref q6, .ref q7])), (q1, .inl (cy 0, 6, .inl fh)), (q2, .inl (cy 0, 30, .inl fd)), (q4, .inl (cy 0, 30, .inl fs))], w, xW cy xtb a S1083] : List va_W)) (rs := ([[(z0, .inr (12, [.ref b, .ref q1, .ref q2, .ref q3, .ref q4, .ref q5, .ref q6, .ref q7])), (q1, .inl (cy 0, 6, .inl fh)), (q2, .inl (cy 0, 30, .inl fd)), (q4, .inl (cy 0, 30, .inl fs))], w] : List va_W)) (x := xW cy xtb a S1083) 2 rfl rfl hDn
    refine kv_if_ge_t (tgt := 1091) hx hb (by omega) (by omega) (by omega) dL_law_1086 (by decide) ?_
    refine lv_iinc (v := ki ((i + 1 : Nat) : Int)) (lv' := [(16, .int (ki ((i + 1 : Nat) : Int))), (0, .ref b), (1, .ref (a 0)), (2, .ref z0), (3, .ref y), (14, .int (ki (j : Int)))]) hx hb dL_law_1091 hl (k := 5) rfl ((ki_add _ _).trans (congrArg ki (by omega))) (by decide) rfl (fun ls hl => ?_)
    refine lv_goto (tgt := 1073) hx hb dL_law_1094 (by decide) ?_
    exact ih (i + 1) (by omega) _ _ hB hi H _ ls (lv_sub hl [1, 2, 3, 4, 5, 0] rfl) hP hD hS
set_option maxHeartbeats 2000000 in
set_option maxRecDepth 20000 in
theorem LA_4 (hx : p.tables.exec = Jvm.exec) (hb : c.code = cL_law) (hml : c.maxLocals = 21) (hown : s.vm.findClass RL = some m.cls) (hts : ∀ w ∈ xTB, w.before args s = true) (hK : va_K D vwCl (xtyL cy) s) (hN : jN mi s) (hZ : jZ zE zc ad A s s.heap) (hX : va_X b L xs s s.heap) (hbl : b < s.heap.size) (hbA : ¬ A b) (hNs : nS s) (hEx : xEx z A s s.heap) (hA : ∀ q, s.heap.size ≤ q → A q) (hI : xI xtb a) (hR : 100 ≤ R.frames ∧ 4000 ≤ R.locals ∧ 600000 ≤ R.cells ∧ 7302250 ≤ R.slots) (hL : L ≤ 1000) (hF : nF s) (hkn : k ≤ R.cells ∧ n ≤ R.slots) {j : Nat} (hj : j ≤ 20) (hdk2 : ∀ i, i ≤ 40 - j → glowS (daysN gn i (taS (daysN gn j η) 6)) = 0) (kk : ∀ (S1 : xSt) (g : Int → Int) (hB : BX (uh (taS (daysN gn j η) 6) 8 g) gn S1) (hi : iX η S1) (H : Heap) (locs : List Loc) (ls : Array Slot), lv_has ls 21 [(0, .ref b), (1, .ref (a 0)), (2, .ref z0), (3, .ref y)] → va_P D vwCl (List.flatten [[(z0, .inr (12, [.ref b, .ref q1, .ref q2, .ref q3, .ref q4, .ref q5, .ref q6, .ref q7])), (q1, .inl (cy 0, 6, .inl fh)), (q2, .inl (cy 0, 30, .inl fd)), (q4, .inl (cy 0, 30, .inl fs))], w, xW cy xtb a S1]) H → va_D A (List.flatten [[(z0, .inr (12, [.ref b, .ref q1, .ref q2, .ref q3, .ref q4, .ref q5, .ref q6, .ref q7])), (q1, .inl (cy 0, 6, .inl fh)), (q2, .inl (cy 0, 30, .inl fd)), (q4, .inl (cy 0, 30, .inl fs))], w, xW cy xtb a S1]) → va_S A s.heap H locs → W p l e R s m args below meth c H locs k n Q (F0 m 1129 ls [])) : ∀ (d i : Nat), i + d = (41 - j) → ∀ (S1 : xSt) (g : Int → Int) (hB : BX (uh (taS (daysN gn j η) 6) 8 g) gn S1) (hi : iX η S1) (H : Heap) (locs : List Loc) (ls : Array Slot), lv_has ls 21 [(0, .ref b), (1, .ref (a 0)), (2, .ref z0), (3, .ref y), (14, .int (ki (j : Int))), (16, .int (ki ((j : Int) + (i : Int))))] → va_P D vwCl (List.flatten [[(z0, .inr (12, [.ref b, .ref q1, .ref q2, .ref q3, .ref q4, .ref q5, .ref q6, .ref q7])), (q1, .inl (cy 0, 6, .inl fh)), (q2, .inl (cy 0, 30, .inl fd)), (q4, .inl (cy 0, 30, .inl fs))], w, xW cy xtb a S1]) H → va_D A (List.flatten [[(z0, .inr (12, [.ref b, .ref q1, .ref q2, .ref q3, .ref q4, .ref q5, .ref q6, .ref q7])), (q1, .inl (cy 0, 6, .inl fh)), (q2, .inl (cy 0, 30, .inl fd)), (q4, .inl (cy 0, 30, .inl fs))], w, xW cy xtb a S1]) → va_S A s.heap H locs → W p l e R s m args below meth c H locs k n Q (F0 m 1101 ls []) := by
  intro d
  induction d with
  | zero =>
    intro i hix S1 g hB hi H locs ls hl hP hD hS
    have hix : (41 - j) = i := by omega
    subst hix
    refine lv_iload hx hb dL_law_1101 (lv_at hl 5 rfl) ?_
    refine lv_bipush (v := ki 41) hx hb dL_law_1103 rfl ?_
    refine kv_icmp_ge_t (tgt := 1129) hx hb (by omega) (by omega) (by omega) (by omega) (by omega) dL_law_1105 (by decide) ?_
    exact kk S1 g hB hi H _ ls (lv_sub hl [0, 1, 2, 3] rfl) hP hD hS
  | succ d ih =>
    intro i hix S1 g hB hi H locs ls hl hP hD hS
    refine lv_iload hx hb dL_law_1101 (lv_at hl 5 rfl) ?_
    refine lv_bipush (v := ki 41) hx hb dL_law_1103 rfl ?_
    refine kv_icmp_ge_f (tgt := 1129) hx hb (by omega) (by omega) (by omega) (by omega) (by omega) dL_law_1105 (by decide) ?_
    refine lv_aload_n hx hb dL_law_1108 rfl (lv_at hl 1 rfl) ?_
    refine lv_iload hx hb dL_law_1109 (lv_at hl 5 rfl) ?_
    refine lv_iload hx hb dL_law_1111 (lv_at hl 4 rfl) ?_
    refine kv_sub (r := (i : Int)) hx hb (by omega) dL_law_1113 ?_
    refine lv_iconst (v := ki 2) hx hb dL_law_1114 rfl ?_
    obtain ⟨⟨S1115, v1115⟩, hf1115, hq1115⟩ := t_stack8 (S := S1) hB (n := i) (w := 2) (by omega) (by omega) (by omega)
    dsimp only at hq1115
    obtain ⟨hv9, hf9, hl9⟩ := hq1115
    subst hv9
    have hB := BX_q hB hf9 hl9
    have hi := iX_q hi hf9
    rw [show stS (daysN gn i (taS (daysN gn j η) 6)) 2 = 0 from hdk2 i (by omega)] at hf1115
    have hPc := blk_P (bs := ([[(z0, .inr (12, [.ref b, .ref q1, .ref q2, .ref q3, .ref q4, .ref q5, .ref q6, .ref q7])), (q1, .inl (cy 0, 6, .inl fh)), (q2, .inl (cy 0, 30, .inl fd)), (q4, .inl (cy 0, 30, .inl fs))], w, xW cy xtb a S1] : List va_W)) (rs := ([[(z0, .inr (12, [.ref b, .ref q1, .ref q2, .ref q3, .ref q4, .ref q5, .ref q6, .ref q7])), (q1, .inl (cy 0, 6, .inl fh)), (q2, .inl (cy 0, 30, .inl fd)), (q4, .inl (cy 0, 30, .inl fs))], w] : List va_W)) (x := xW cy xtb a S1) 2 rfl rfl hP
    have hDc := blk_D (bs := ([[(z0, .inr (12, [.ref b, .ref q1, .ref q2, .ref q3, .ref q4, .ref q5, .ref q6, .ref q7])), (q1, .inl (cy 0, 6, .inl fh)), (q2, .inl (cy 0, 30, .inl fd)), (q4, .inl (cy 0, 30, .inl fs))], w, xW cy xtb a S1] : List va_W)) (rs := ([[(z0, .inr (12, [.ref b, .ref q1, .ref q2, .ref q3, .ref q4, .ref q5, .ref q6, .ref q7])), (q1, .inl (cy 0, 6, .inl fh)), (q2, .inl (cy 0, 30, .inl fd)), (q4, .inl (cy 0, 30, .inl fs))], w] : List va_W)) (x := xW cy xtb a S1) 2 rfl rfl hD
    refine lw_vi hx hb hml hown hts (K_sub hK) hEx hI hPc hDc hS hA (⟨xw_mem 477 (by decide +kernel) rfl, xw_mem 30 (by decide +kernel) rfl, xw_mem 474 (by decide +kernel) rfl, by decide +kernel⟩ : xML RL 84 yX11_stack cX11_stack 4 (some .int) 2) (xw_mem 475 (by decide +kernel) rfl) (xw_mem 476 (by decide +kernel) rfl) (he := rfl) (by decide) rfl [.int (ki (i : Int)), .int (ki 2)] (rest := []) (c_X11_stack hI hf1115 _) ⟨by omega, by omega⟩ ⟨by omega, by omega⟩ rfl hl.1 rfl (Nat.le_of_ble_eq_true (rfl)) dL_law_1115 (fun H locs hPn hS => ?_)
    have hDn := xD_st (S' := S1115) hDc
    have hP := blk_P2 (bs := ([[(z0, .inr (12, [.ref b, .ref q1, .ref q2, .ref q3, .ref q4, .ref q5, .ref q6, .ref q7])), (q1, .inl (cy 0, 6, .inl fh)), (q2, .inl (cy 0, 30, .inl fd)), (q4, .inl (cy 0, 30, .inl fs))], w, xW cy xtb a S1115] : List va_W)) (rs := ([[(z0, .inr (12, [.ref b, .ref q1, .ref q2, .ref q3, .ref q4, .ref q5, .ref q6, .ref q7])), (q1, .inl (cy 0, 6, .inl fh)), (q2, .inl (cy 0, 30, .inl fd)), (q4, .inl (cy 0, 30, .inl fs))], w] : List va_W)) (x := xW cy xtb a S1115) 2 rfl rfl hPn
    have hD := blk_D2 (bs := ([[(z0, .inr (12, [.ref b, .ref q1, .ref q2, .ref q3, .ref q4, .ref q5, .ref q6, .ref q7])), (q1, .inl (cy 0, 6, .inl fh)), (q2, .inl (cy 0, 30, .inl fd)), (q4, .inl (cy 0, 30, .inl fs))], w, xW cy xtb a S1115] : List va_W)) (rs := ([[(z0, .inr (12, [.ref b, .ref q1, .ref q2, .ref q3, .ref q4, .ref q5, .ref q6, .ref q7])), (q1, .inl (cy 0, 6, .inl fh)), (q2, .inl (cy 0, 30, .inl fd)), (q4, .inl (cy 0, 30, .inl fs))], w] : List va_W)) (x := xW cy xtb a S1115) 2 rfl rfl hDn
    refine kv_if_eq_t (tgt := 1123) hx hb (by omega) (by omega) (by omega) dL_law_1118 (by decide) ?_
    refine lv_iinc (v := ki ((j : Int) + ((i + 1 : Nat) : Int))) (lv' := [(16, .int (ki ((j : Int) + ((i + 1 : Nat) : Int)))), (0, .ref b), (1, .ref (a 0)), (2, .ref z0), (3, .ref y), (14, .int (ki (j : Int)))]) hx hb dL_law_1123 hl (k := 5) rfl ((ki_add _ _).trans (congrArg ki (by omega))) (by decide) rfl (fun ls hl => ?_)
    refine lv_goto (tgt := 1101) hx hb dL_law_1126 (by decide) ?_
    exact ih (i + 1) (by omega) _ _ hB hi H _ ls (lv_sub hl [1, 2, 3, 4, 5, 0] rfl) hP hD hS
set_option maxHeartbeats 2000000 in
set_option maxRecDepth 20000 in
theorem LW_late (hx : p.tables.exec = Jvm.exec) (hb : c.code = cL_law) (hml : c.maxLocals = 21) (hown : s.vm.findClass RL = some m.cls) (hts : ∀ w ∈ xTB, w.before args s = true) (hK : va_K D vwCl (xtyL cy) s) (hN : jN mi s) (hZ : jZ zE zc ad A s s.heap) (hX : va_X b L xs s s.heap) (hbl : b < s.heap.size) (hbA : ¬ A b) (hNs : nS s) (hEx : xEx z A s s.heap) (hA : ∀ q, s.heap.size ≤ q → A q) (hI : xI xtb a) (hR : 100 ≤ R.frames ∧ 4000 ≤ R.locals ∧ 600000 ≤ R.cells ∧ 7302250 ≤ R.slots) (hL : L ≤ 1000) (hF : nF s) (hh : ∀ j : Nat, j < 6 → fh j = ki (hgS L xs j)) (hdm : ∀ j : Nat, j < 30 → fd j = ki (nuS L xs j 0)) (hsl : ∀ j : Nat, j < 30 → fs j = ki (nuS L xs j 3)) (hw9 : isL cy zE ad y (csI L xs 30) w) (hE : bE L xs η) (hB : BX η gn S) (hi : iX η S) (hkn : k ≤ R.cells ∧ n ≤ R.slots) (kk : ∀ (S : xSt) (hB : BX η gn S) (hi : iX η S) (H : Heap) (locs : List Loc) (ls : Array Slot), lv_has ls 21 [(0, .ref b), (1, .ref (a 0)), (2, .ref z0), (3, .ref y)] → va_P D vwCl (List.flatten [[(z0, .inr (12, [.ref b, .ref q1, .ref q2, .ref q3, .ref q4, .ref q5, .ref q6, .ref q7])), (q1, .inl (cy 0, 6, .inl fh)), (q2, .inl (cy 0, 30, .inl fd)), (q4, .inl (cy 0, 30, .inl fs))], w, xW cy xtb a S]) H → va_D A (List.flatten [[(z0, .inr (12, [.ref b, .ref q1, .ref q2, .ref q3, .ref q4, .ref q5, .ref q6, .ref q7])), (q1, .inl (cy 0, 6, .inl fh)), (q2, .inl (cy 0, 30, .inl fd)), (q4, .inl (cy 0, 30, .inl fs))], w, xW cy xtb a S]) → va_S A s.heap H locs → W p l e R s m args below meth c H locs k n Q (F0 m 1138 ls [])) {H : Heap} {locs : List Loc} {ls : Array Slot} (hl : lv_has ls 21 [(0, .ref b), (1, .ref (a 0)), (2, .ref z0), (3, .ref y)]) (hP : va_P D vwCl (List.flatten [[(z0, .inr (12, [.ref b, .ref q1, .ref q2, .ref q3, .ref q4, .ref q5, .ref q6, .ref q7])), (q1, .inl (cy 0, 6, .inl fh)), (q2, .inl (cy 0, 30, .inl fd)), (q4, .inl (cy 0, 30, .inl fs))], w, xW cy xtb a S]) H) (hD : va_D A (List.flatten [[(z0, .inr (12, [.ref b, .ref q1, .ref q2, .ref q3, .ref q4, .ref q5, .ref q6, .ref q7])), (q1, .inl (cy 0, 6, .inl fh)), (q2, .inl (cy 0, 30, .inl fd)), (q4, .inl (cy 0, 30, .inl fs))], w, xW cy xtb a S])) (hS : va_S A s.heap H locs) : W p l e R s m args below meth c H locs k n Q (F0 m 978 ls []) := by
  have hck := lat_0 (gn := gn) hB.1
  have hwf := hB.1
  have htt : ∀ j : Nat, taS (daysN gn j η) 6 2 = η 2 ∧ taS (daysN gn j η) 6 0 10 = η 0 10 := fun j => ⟨days_2 j, days_10 j⟩
  have hlb : -2 ≤ ltA gn η ∧ ltA gn η ≤ 20 := by
    rcases hck with h | ⟨j, h, h2, _⟩ <;> omega
  refine lv_aload_n hx hb dL_law_978 rfl (lv_at hl 1 rfl) ?_
  obtain ⟨⟨S979, v979⟩, hf979, hq979⟩ := t_latest (S := S) hB
  dsimp only at hq979
  obtain ⟨hv9, hf9, hl9⟩ := hq979
  subst hv9
  have hB := BX_q hB hf9 hl9
  have hi := iX_q hi hf9
  have hPc := blk_P (bs := ([[(z0, .inr (12, [.ref b, .ref q1, .ref q2, .ref q3, .ref q4, .ref q5, .ref q6, .ref q7])), (q1, .inl (cy 0, 6, .inl fh)), (q2, .inl (cy 0, 30, .inl fd)), (q4, .inl (cy 0, 30, .inl fs))], w, xW cy xtb a S] : List va_W)) (rs := ([[(z0, .inr (12, [.ref b, .ref q1, .ref q2, .ref q3, .ref q4, .ref q5, .ref q6, .ref q7])), (q1, .inl (cy 0, 6, .inl fh)), (q2, .inl (cy 0, 30, .inl fd)), (q4, .inl (cy 0, 30, .inl fs))], w] : List va_W)) (x := xW cy xtb a S) 2 rfl rfl hP
  have hDc := blk_D (bs := ([[(z0, .inr (12, [.ref b, .ref q1, .ref q2, .ref q3, .ref q4, .ref q5, .ref q6, .ref q7])), (q1, .inl (cy 0, 6, .inl fh)), (q2, .inl (cy 0, 30, .inl fd)), (q4, .inl (cy 0, 30, .inl fs))], w, xW cy xtb a S] : List va_W)) (rs := ([[(z0, .inr (12, [.ref b, .ref q1, .ref q2, .ref q3, .ref q4, .ref q5, .ref q6, .ref q7])), (q1, .inl (cy 0, 6, .inl fh)), (q2, .inl (cy 0, 30, .inl fd)), (q4, .inl (cy 0, 30, .inl fs))], w] : List va_W)) (x := xW cy xtb a S) 2 rfl rfl hD
  refine lw_vi hx hb hml hown hts (K_sub hK) hEx hI hPc hDc hS hA (⟨xw_mem 624 (by decide +kernel) rfl, xw_mem 30 (by decide +kernel) rfl, xw_mem 621 (by decide +kernel) rfl, by decide +kernel⟩ : xML RL 178 yX11_latest cX11_latest 1 (some .int) 0) (xw_mem 622 (by decide +kernel) rfl) (xw_mem 623 (by decide +kernel) rfl) (he := rfl) (by decide) rfl [] (rest := []) (c_X11_latest hI hf979 _) ⟨by omega, by omega⟩ ⟨by omega, by omega⟩ rfl hl.1 rfl (Nat.le_of_ble_eq_true (rfl)) dL_law_979 (fun H locs hPn hS => ?_)
  have hDn := xD_st (S' := S979) hDc
  have hP := blk_P2 (bs := ([[(z0, .inr (12, [.ref b, .ref q1, .ref q2, .ref q3, .ref q4, .ref q5, .ref q6, .ref q7])), (q1, .inl (cy 0, 6, .inl fh)), (q2, .inl (cy 0, 30, .inl fd)), (q4, .inl (cy 0, 30, .inl fs))], w, xW cy xtb a S979] : List va_W)) (rs := ([[(z0, .inr (12, [.ref b, .ref q1, .ref q2, .ref q3, .ref q4, .ref q5, .ref q6, .ref q7])), (q1, .inl (cy 0, 6, .inl fh)), (q2, .inl (cy 0, 30, .inl fd)), (q4, .inl (cy 0, 30, .inl fs))], w] : List va_W)) (x := xW cy xtb a S979) 2 rfl rfl hPn
  have hD := blk_D2 (bs := ([[(z0, .inr (12, [.ref b, .ref q1, .ref q2, .ref q3, .ref q4, .ref q5, .ref q6, .ref q7])), (q1, .inl (cy 0, 6, .inl fh)), (q2, .inl (cy 0, 30, .inl fd)), (q4, .inl (cy 0, 30, .inl fs))], w, xW cy xtb a S979] : List va_W)) (rs := ([[(z0, .inr (12, [.ref b, .ref q1, .ref q2, .ref q3, .ref q4, .ref q5, .ref q6, .ref q7])), (q1, .inl (cy 0, 6, .inl fh)), (q2, .inl (cy 0, 30, .inl fd)), (q4, .inl (cy 0, 30, .inl fs))], w] : List va_W)) (x := xW cy xtb a S979) 2 rfl rfl hDn
  refine lv_istore (lv' := [(14, .int (ki (ltA gn η))), (0, .ref b), (1, .ref (a 0)), (2, .ref z0), (3, .ref y)]) hx hb dL_law_982 hl (by decide) rfl (fun ls hl => ?_)
  refine lv_iload hx hb dL_law_984 (lv_at hl 0 rfl) ?_
  refine kv_if_lt (tgt := 1138) hx hb (by omega) (by omega) dL_law_986 (by decide) (fun hneg => ?_) (fun hneg => ?_)
  · exact kk S979 hB hi H _ ls (lv_sub hl [1, 2, 3, 4] rfl) hP hD hS
  · have hla : ∃ j : Nat, ltA gn η = j ∧ j ≤ 20 ∧ (∃ g : Nat, g ≤ 40 ∧ 0 < glowS (daysN gn g η)) ∧ (∀ i, i ≤ j → glowS (daysN gn i η) = 0) ∧ ∀ i, i ≤ 40 - j → glowS (daysN gn i (taS (daysN gn j η) 6)) = 0 := by
      rcases hck with h | h
      · omega
      · exact h
    obtain ⟨j, ej, hj, ⟨g9, hg9, hgg⟩, hdk, hdk2⟩ := hla
    rw [ej] at hl
    refine lv_iconst (v := ki 0) hx hb dL_law_989 rfl ?_
    refine lv_istore (lv' := [(15, .int (ki 0)), (14, .int (ki (j : Int))), (0, .ref b), (1, .ref (a 0)), (2, .ref z0), (3, .ref y)]) hx hb dL_law_990 hl (by decide) rfl (fun ls hl => ?_)
    refine lv_iconst (v := ki 0) hx hb dL_law_992 rfl ?_
    refine lv_istore (lv' := [(16, .int (ki 0)), (15, .int (ki 0)), (14, .int (ki (j : Int))), (0, .ref b), (1, .ref (a 0)), (2, .ref z0), (3, .ref y)]) hx hb dL_law_993 hl (by decide) rfl (fun ls hl => ?_)
    refine LA_1 hx hb hml hown hts hK hN hZ hX hbl hbA hNs hEx hA hI hR hL hF hkn (j := j) (fun S1 t hB hi ht9 hq9 H locs ls hl hP hD hS => ?_) 41 0 (by omega) _ 0 hB hi (Or.inl rfl) (fun q hq => absurd hq (Nat.not_lt_zero q)) H _ ls (lv_sub hl [3, 4, 5, 6, 2, 1, 0] rfl) hP hD hS
    have ht1 : t = 1 := hq9 g9 (by omega) hgg
    subst ht1
    refine lv_iload hx hb dL_law_1028 (lv_at hl 5 rfl) ?_
    refine kv_if_ne_t (tgt := 1035) hx hb (by omega) (by omega) (by omega) dL_law_1030 (by decide) ?_
    refine lv_iconst (v := ki 0) hx hb dL_law_1035 rfl ?_
    refine lv_istore (lv' := [(16, .int (ki 0)), (0, .ref b), (1, .ref (a 0)), (2, .ref z0), (3, .ref y), (14, .int (ki (j : Int))), (15, .int (ki 1))]) hx hb dL_law_1036 hl (by decide) rfl (fun ls hl => ?_)
    refine LA_2 hx hb hml hown hts hK hN hZ hX hbl hbA hNs hEx hA hI hR hL hF hkn (j := j) hj hdk (fun S1 g hB hi H locs ls hl hP hD hS => ?_) j 0 (by omega) _ _ (BX_8 hB) hi H _ ls (lv_sub hl [1, 2, 3, 4, 5, 0] rfl) hP hD hS
    refine lv_aload_n hx hb dL_law_1060 rfl (lv_at hl 1 rfl) ?_
    refine lv_iconst (v := ki 1) hx hb dL_law_1061 rfl ?_
    obtain ⟨⟨S1062, v1062⟩, hf1062, hq1062⟩ := t_count8 (S := S1) hB
    dsimp only at hq1062
    obtain ⟨hv9, hf9, hl9⟩ := hq1062
    subst hv9
    have hB := BX_q hB hf9 hl9
    have hi := iX_q hi hf9
    rw [hdk j (Nat.le_refl _)] at hf1062
    have hPc := blk_P (bs := ([[(z0, .inr (12, [.ref b, .ref q1, .ref q2, .ref q3, .ref q4, .ref q5, .ref q6, .ref q7])), (q1, .inl (cy 0, 6, .inl fh)), (q2, .inl (cy 0, 30, .inl fd)), (q4, .inl (cy 0, 30, .inl fs))], w, xW cy xtb a S1] : List va_W)) (rs := ([[(z0, .inr (12, [.ref b, .ref q1, .ref q2, .ref q3, .ref q4, .ref q5, .ref q6, .ref q7])), (q1, .inl (cy 0, 6, .inl fh)), (q2, .inl (cy 0, 30, .inl fd)), (q4, .inl (cy 0, 30, .inl fs))], w] : List va_W)) (x := xW cy xtb a S1) 2 rfl rfl hP
    have hDc := blk_D (bs := ([[(z0, .inr (12, [.ref b, .ref q1, .ref q2, .ref q3, .ref q4, .ref q5, .ref q6, .ref q7])), (q1, .inl (cy 0, 6, .inl fh)), (q2, .inl (cy 0, 30, .inl fd)), (q4, .inl (cy 0, 30, .inl fs))], w, xW cy xtb a S1] : List va_W)) (rs := ([[(z0, .inr (12, [.ref b, .ref q1, .ref q2, .ref q3, .ref q4, .ref q5, .ref q6, .ref q7])), (q1, .inl (cy 0, 6, .inl fh)), (q2, .inl (cy 0, 30, .inl fd)), (q4, .inl (cy 0, 30, .inl fs))], w] : List va_W)) (x := xW cy xtb a S1) 2 rfl rfl hD
    refine lw_vi hx hb hml hown hts (K_sub hK) hEx hI hPc hDc hS hA (⟨xw_mem 785 (by decide +kernel) rfl, xw_mem 30 (by decide +kernel) rfl, xw_mem 782 (by decide +kernel) rfl, by decide +kernel⟩ : xML RL 13 yX11_count cX11_count 2 (some .int) 1) (xw_mem 783 (by decide +kernel) rfl) (xw_mem 784 (by decide +kernel) rfl) (he := rfl) (by decide) rfl [.int (ki 1)] (rest := []) (c_X11_count hI hf1062 _) ⟨by omega, by omega⟩ ⟨by omega, by omega⟩ rfl hl.1 rfl (Nat.le_of_ble_eq_true (rfl)) dL_law_1062 (fun H locs hPn hS => ?_)
    have hDn := xD_st (S' := S1062) hDc
    have hP := blk_P2 (bs := ([[(z0, .inr (12, [.ref b, .ref q1, .ref q2, .ref q3, .ref q4, .ref q5, .ref q6, .ref q7])), (q1, .inl (cy 0, 6, .inl fh)), (q2, .inl (cy 0, 30, .inl fd)), (q4, .inl (cy 0, 30, .inl fs))], w, xW cy xtb a S1062] : List va_W)) (rs := ([[(z0, .inr (12, [.ref b, .ref q1, .ref q2, .ref q3, .ref q4, .ref q5, .ref q6, .ref q7])), (q1, .inl (cy 0, 6, .inl fh)), (q2, .inl (cy 0, 30, .inl fd)), (q4, .inl (cy 0, 30, .inl fs))], w] : List va_W)) (x := xW cy xtb a S1062) 2 rfl rfl hPn
    have hD := blk_D2 (bs := ([[(z0, .inr (12, [.ref b, .ref q1, .ref q2, .ref q3, .ref q4, .ref q5, .ref q6, .ref q7])), (q1, .inl (cy 0, 6, .inl fh)), (q2, .inl (cy 0, 30, .inl fd)), (q4, .inl (cy 0, 30, .inl fs))], w, xW cy xtb a S1062] : List va_W)) (rs := ([[(z0, .inr (12, [.ref b, .ref q1, .ref q2, .ref q3, .ref q4, .ref q5, .ref q6, .ref q7])), (q1, .inl (cy 0, 6, .inl fh)), (q2, .inl (cy 0, 30, .inl fd)), (q4, .inl (cy 0, 30, .inl fs))], w] : List va_W)) (x := xW cy xtb a S1062) 2 rfl rfl hDn
    refine kv_if_eq_t (tgt := 1070) hx hb (by omega) (by omega) (by omega) dL_law_1065 (by decide) ?_
    refine lv_iconst (v := ki 0) hx hb dL_law_1070 rfl ?_
    refine lv_istore (lv' := [(16, .int (ki 0)), (0, .ref b), (1, .ref (a 0)), (2, .ref z0), (3, .ref y), (14, .int (ki (j : Int)))]) hx hb dL_law_1071 hl (by decide) rfl (fun ls hl => ?_)
    refine LA_3 hx hb hml hown hts hK hN hZ hX hbl hbA hNs hEx hA hI hR hL hF hkn (j := j) (fun S2 g hB hi H locs ls hl hP hD hS => ?_) 6 0 (by omega) _ _ hB hi H _ ls (lv_sub hl [1, 2, 3, 4, 5, 0] rfl) hP hD hS
    refine lv_iload hx hb dL_law_1097 (lv_at hl 4 rfl) ?_
    refine lv_istore (lv' := [(16, .int (ki (j : Int))), (0, .ref b), (1, .ref (a 0)), (2, .ref z0), (3, .ref y), (14, .int (ki (j : Int)))]) hx hb dL_law_1099 hl (by decide) rfl (fun ls hl => ?_)
    refine LA_4 hx hb hml hown hts hK hN hZ hX hbl hbA hNs hEx hA hI hR hL hF hkn (j := j) hj hdk2 (fun S3 g hB hi H locs ls hl hP hD hS => ?_) (41 - j) 0 (by omega) _ _ hB hi _ _ ls (lv_sub hl [1, 2, 3, 4, 5, 0] rfl) hP hD hS
    refine lv_aload_n hx hb dL_law_1129 rfl (lv_at hl 1 rfl) ?_
    obtain ⟨⟨S1130, v1130⟩, hf1130, hq1130⟩ := t_back8 (S := S3) hB hi hwf (htt j).1 (htt j).2
    dsimp only at hq1130
    obtain ⟨hv9, hB, hi⟩ := hq1130
    subst hv9
    rw [hE.2.2.2] at hf1130
    have hPc := blk_P (bs := ([[(z0, .inr (12, [.ref b, .ref q1, .ref q2, .ref q3, .ref q4, .ref q5, .ref q6, .ref q7])), (q1, .inl (cy 0, 6, .inl fh)), (q2, .inl (cy 0, 30, .inl fd)), (q4, .inl (cy 0, 30, .inl fs))], w, xW cy xtb a S3] : List va_W)) (rs := ([[(z0, .inr (12, [.ref b, .ref q1, .ref q2, .ref q3, .ref q4, .ref q5, .ref q6, .ref q7])), (q1, .inl (cy 0, 6, .inl fh)), (q2, .inl (cy 0, 30, .inl fd)), (q4, .inl (cy 0, 30, .inl fs))], w] : List va_W)) (x := xW cy xtb a S3) 2 rfl rfl hP
    have hDc := blk_D (bs := ([[(z0, .inr (12, [.ref b, .ref q1, .ref q2, .ref q3, .ref q4, .ref q5, .ref q6, .ref q7])), (q1, .inl (cy 0, 6, .inl fh)), (q2, .inl (cy 0, 30, .inl fd)), (q4, .inl (cy 0, 30, .inl fs))], w, xW cy xtb a S3] : List va_W)) (rs := ([[(z0, .inr (12, [.ref b, .ref q1, .ref q2, .ref q3, .ref q4, .ref q5, .ref q6, .ref q7])), (q1, .inl (cy 0, 6, .inl fh)), (q2, .inl (cy 0, 30, .inl fd)), (q4, .inl (cy 0, 30, .inl fs))], w] : List va_W)) (x := xW cy xtb a S3) 2 rfl rfl hD
    refine lw_vi hx hb hml hown hts (K_sub hK) hEx hI hPc hDc hS hA (⟨xw_mem 781 (by decide +kernel) rfl, xw_mem 30 (by decide +kernel) rfl, xw_mem 778 (by decide +kernel) rfl, by decide +kernel⟩ : xML RL 114 yX11_back cX11_back 1 (some .int) 0) (xw_mem 779 (by decide +kernel) rfl) (xw_mem 780 (by decide +kernel) rfl) (he := rfl) (by decide) rfl [] (rest := []) (c_X11_back hI hf1130 _) ⟨by omega, by omega⟩ ⟨by omega, by omega⟩ rfl hl.1 rfl (Nat.le_of_ble_eq_true (rfl)) dL_law_1130 (fun H locs hPn hS => ?_)
    have hDn := xD_st (S' := S1130) hDc
    have hP := blk_P2 (bs := ([[(z0, .inr (12, [.ref b, .ref q1, .ref q2, .ref q3, .ref q4, .ref q5, .ref q6, .ref q7])), (q1, .inl (cy 0, 6, .inl fh)), (q2, .inl (cy 0, 30, .inl fd)), (q4, .inl (cy 0, 30, .inl fs))], w, xW cy xtb a S1130] : List va_W)) (rs := ([[(z0, .inr (12, [.ref b, .ref q1, .ref q2, .ref q3, .ref q4, .ref q5, .ref q6, .ref q7])), (q1, .inl (cy 0, 6, .inl fh)), (q2, .inl (cy 0, 30, .inl fd)), (q4, .inl (cy 0, 30, .inl fs))], w] : List va_W)) (x := xW cy xtb a S1130) 2 rfl rfl hPn
    have hD := blk_D2 (bs := ([[(z0, .inr (12, [.ref b, .ref q1, .ref q2, .ref q3, .ref q4, .ref q5, .ref q6, .ref q7])), (q1, .inl (cy 0, 6, .inl fh)), (q2, .inl (cy 0, 30, .inl fd)), (q4, .inl (cy 0, 30, .inl fs))], w, xW cy xtb a S1130] : List va_W)) (rs := ([[(z0, .inr (12, [.ref b, .ref q1, .ref q2, .ref q3, .ref q4, .ref q5, .ref q6, .ref q7])), (q1, .inl (cy 0, 6, .inl fh)), (q2, .inl (cy 0, 30, .inl fd)), (q4, .inl (cy 0, 30, .inl fs))], w] : List va_W)) (x := xW cy xtb a S1130) 2 rfl rfl hDn
    refine kv_if_eq_t (tgt := 1138) hx hb (by omega) (by omega) (by omega) dL_law_1133 (by decide) ?_
    exact kk S1130 hB hi H _ ls (lv_sub hl [0, 1, 2, 3] rfl) hP hD hS
end LAW
