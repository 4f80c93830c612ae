/-! part cg: the law asks lay (made by wip/p45/gen_cg.py) -/
section LAW
variable {l : Launch} {D : va_G} {cy : Nat → ClassId} {mi zE zc : Nat} {ad z a : Nat → Nat} {b L : Nat} {xs : Nat → Int32}
variable {p : Program} {e : Env} {R : Room} {s : State} {m : MethodId} {args : Array Value} {below : List Frame} {meth : Method} {c : Code} {Q : State → Prop} {A : Nat → Prop}
variable {z0 q1 q2 q3 q4 q5 q6 q7 y : Nat} {fh fd fs : Nat → Int32} {w : va_W} {gn : (Int → Int) → Int} {η : Hy} {S : xSt} {k n : Nat}
variable {N : Nat} {pe : List Nat} {rd : Int → Int} {qa qo : Nat} {fa fo : Nat → Int32} {v : Int}
set_option maxHeartbeats 2000000 in
set_option maxRecDepth 20000 in
theorem LY_1 (hx : p.tables.exec = Jvm.exec) (hb : c.code = cL_law) (hml : c.maxLocals = 21) (hown : s.vm.findClass RL = some m.cls) (hts : ∀ w ∈ xTB, w.before args s = true) (hK : va_K D vwCl (xtyL cy) s) (hN : jN mi s) (hZ : jZ zE zc ad A s s.heap) (hX : va_X b L xs s s.heap) (hbl : b < s.heap.size) (hbA : ¬ A b) (hNs : nS s) (hEx : xEx z A s s.heap) (hA : ∀ q, s.heap.size ≤ q → A q) (hI : xI xtb a) (hR : 100 ≤ R.frames ∧ 4000 ≤ R.locals ∧ 600000 ≤ R.cells ∧ 7302250 ≤ R.slots) (hL : L ≤ 1000) (hF : nF s) (hkn : k ≤ R.cells ∧ n ≤ R.slots) (hN4 : N ≤ 4) (kk : ∀ (S1 : xSt) (fa : Nat → Int32) (hB : BX η gn S1) (hi : iX η S1) (hfa : ∀ j : Nat, j < N → fa j = ki (avS L xs j)) (H : Heap) (locs : List Loc) (ls : Array Slot), lv_has ls 21 [(0, .ref b), (1, .ref (a 0)), (2, .ref z0), (3, .ref y), (15, .ref qa)] → va_P D vwCl (List.flatten [[(z0, .inr (12, [.ref b, .ref q1, .ref q2, .ref q3, .ref q4, .ref q5, .ref q6, .ref q7])), (q1, .inl (cy 0, 6, .inl fh)), (q2, .inl (cy 0, 30, .inl fd)), (q4, .inl (cy 0, 30, .inl fs))], [(qa, .inl (cy 0, N, .inl fa))], w, xW cy xtb a S1]) H → va_D A (List.flatten [[(z0, .inr (12, [.ref b, .ref q1, .ref q2, .ref q3, .ref q4, .ref q5, .ref q6, .ref q7])), (q1, .inl (cy 0, 6, .inl fh)), (q2, .inl (cy 0, 30, .inl fd)), (q4, .inl (cy 0, 30, .inl fs))], [(qa, .inl (cy 0, N, .inl fa))], w, xW cy xtb a S1]) → va_S A s.heap H locs → W p l e R s m args below meth c H locs k n Q (F0 m 1186 ls [])) : ∀ (d i : Nat), i + d = N → ∀ (S1 : xSt) (fa : Nat → Int32) (hB : BX η gn S1) (hi : iX η S1) (hfa : ∀ j : Nat, j < i → fa j = ki (avS L xs j)) (H : Heap) (locs : List Loc) (ls : Array Slot), lv_has ls 21 [(0, .ref b), (1, .ref (a 0)), (2, .ref z0), (3, .ref y), (15, .ref qa), (16, .int (ki (i : Int)))] → va_P D vwCl (List.flatten [[(z0, .inr (12, [.ref b, .ref q1, .ref q2, .ref q3, .ref q4, .ref q5, .ref q6, .ref q7])), (q1, .inl (cy 0, 6, .inl fh)), (q2, .inl (cy 0, 30, .inl fd)), (q4, .inl (cy 0, 30, .inl fs))], [(qa, .inl (cy 0, N, .inl fa))], w, xW cy xtb a S1]) H → va_D A (List.flatten [[(z0, .inr (12, [.ref b, .ref q1, .ref q2, .ref q3, .ref q4, .ref q5, .ref q6, .ref q7])), (q1, .inl (cy 0, 6, .inl fh)), (q2, .inl (cy 0, 30, .inl fd)), (q4, .inl (cy 0, 30, .inl fs))], [(qa, .inl (cy 0, N, .inl fa))], w, xW cy xtb a S1]) → va_S A s.heap H locs → W p l e R s m args below meth c H locs k n Q (F0 m 1153 ls []) := by
  intro d
  induction d with
  | zero =>
    intro i hix S1 fa hB hi hfa H locs ls hl hP hD hS
    have hix : N = i := by omega
    subst hix
    refine lv_iload hx hb dL_law_1153 (lv_at hl 5 rfl) ?_
    refine lv_aload hx hb dL_law_1155 (lv_at hl 4 rfl) ?_
    refine va_alen (v := ki (N : Int)) hx hb hK hP 4 0 rfl rfl (nI_ki (by omega)) dL_law_1157 ?_
    refine kv_icmp_ge_t (tgt := 1186) hx hb (by omega) (by omega) (by omega) (by omega) (by omega) dL_law_1158 (by decide) ?_
    exact kk S1 fa hB hi hfa H _ ls (lv_sub hl [0, 1, 2, 3, 4] rfl) hP hD hS
  | succ d ih =>
    intro i hix S1 fa hB hi hfa H locs ls hl hP hD hS
    refine lv_iload hx hb dL_law_1153 (lv_at hl 5 rfl) ?_
    refine lv_aload hx hb dL_law_1155 (lv_at hl 4 rfl) ?_
    refine va_alen (v := ki (N : Int)) hx hb hK hP 4 0 rfl rfl (nI_ki (by omega)) dL_law_1157 ?_
    refine kv_icmp_ge_f (tgt := 1186) hx hb (by omega) (by omega) (by omega) (by omega) (by omega) dL_law_1158 (by decide) ?_
    refine lv_aload hx hb dL_law_1161 (lv_at hl 4 rfl) ?_
    refine lv_iload hx hb dL_law_1163 (lv_at hl 5 rfl) ?_
    refine lv_aload_n hx hb dL_law_1165 rfl (lv_at hl 0 rfl) ?_
    refine lv_bipush (v := ki 17) hx hb dL_law_1166 rfl ?_
    refine lk_pure hx hb hml hown hts hX hbl hbA hS hA (⟨xw_mem 795 (by decide +kernel) rfl, xw_mem 29 (by decide +kernel) rfl, xw_mem 800 (by decide +kernel) rfl, by decide +kernel⟩ : xML RL 17 yL_cell cL_cell 2 (some .int) 2) (xw_mem 794 (by decide +kernel) rfl) (As := [.ref b, .int (ki 17)]) (rest := [.int (ki (i : Int)), .ref qa]) (c_L_cell (i := 17) hL (by omega) (by omega) _) ⟨(by omega), (by omega)⟩ ⟨by omega, by omega⟩ rfl hl.1 rfl (Nat.le_of_ble_eq_true (rfl)) dL_law_1168 (fun H locs hP9 hS => ?_)
    have hP := hP9 _ _ _ hP
    refine lv_iconst (v := ki 3) hx hb dL_law_1171 rfl ?_
    refine lv_iload hx hb dL_law_1172 (lv_at hl 5 rfl) ?_
    refine kv_mul (r := 3 * (i : Int)) hx hb rfl dL_law_1174 ?_
    have hc := ceS_b (L := L) (xs := xs) (i := 17) (by omega) (by omega)
    have hdv := dv_b hc.1 (3 * (i : Int)).toNat
    refine kv_shr (r := (ceS L xs 17) / ((2 ^ ((3 * (i : Int)).toNat) : Nat) : Int)) hx hb ((3 * (i : Int)).toNat) (by omega) (by omega) (by omega) (by omega) rfl dL_law_1175 ?_
    refine lv_bipush (v := ki 10) hx hb dL_law_1176 rfl ?_
    refine kv_rem (r := avS L xs (i : Int)) hx hb (by omega) (by omega) (by omega) (by omega) rfl dL_law_1178 ?_
    refine kv_ast hx hb hK hP hD hS 4 0 rfl rfl (by omega) (by omega) (by omega) dL_law_1179 (fun H locs hP hD hS => ?_)
    have hP : va_P D vwCl (List.flatten [[(z0, .inr (12, [.ref b, .ref q1, .ref q2, .ref q3, .ref q4, .ref q5, .ref q6, .ref q7])), (q1, .inl (cy 0, 6, .inl fh)), (q2, .inl (cy 0, 30, .inl fd)), (q4, .inl (cy 0, 30, .inl fs))], [(qa, .inl (cy 0, N, .inl (upd fa ((i : Int)).toNat (ki (avS L xs (i : Int))))))], w, xW cy xtb a S1]) H := hP
    have hD : va_D A (List.flatten [[(z0, .inr (12, [.ref b, .ref q1, .ref q2, .ref q3, .ref q4, .ref q5, .ref q6, .ref q7])), (q1, .inl (cy 0, 6, .inl fh)), (q2, .inl (cy 0, 30, .inl fd)), (q4, .inl (cy 0, 30, .inl fs))], [(qa, .inl (cy 0, N, .inl (upd fa ((i : Int)).toNat (ki (avS L xs (i : Int))))))], w, xW cy xtb a S1]) := hD
    refine lv_iinc (v := ki ((i + 1 : Nat) : Int)) (lv' := [(16, .int (ki ((i + 1 : Nat) : Int))), (0, .ref b), (1, .ref (a 0)), (2, .ref z0), (3, .ref y), (15, .ref qa)]) hx hb dL_law_1180 hl (k := 5) rfl ((ki_add _ _).trans (congrArg ki (by omega))) (by decide) rfl (fun ls hl => ?_)
    refine lv_goto (tgt := 1153) hx hb dL_law_1183 (by decide) ?_
    exact ih (i + 1) (by omega) _ _ hB hi (upd_to (g := fun j => avS L xs j) hfa rfl) H _ ls (lv_sub hl [1, 2, 3, 4, 5, 0] rfl) hP hD hS
set_option maxHeartbeats 2000000 in
set_option maxRecDepth 20000 in
theorem LY_2 (hx : p.tables.exec = Jvm.exec) (hb : c.code = cL_law) (hml : c.maxLocals = 21) (hown : s.vm.findClass RL = some m.cls) (hts : ∀ w ∈ xTB, w.before args s = true) (hK : va_K D vwCl (xtyL cy) s) (hN : jN mi s) (hZ : jZ zE zc ad A s s.heap) (hX : va_X b L xs s s.heap) (hbl : b < s.heap.size) (hbA : ¬ A b) (hNs : nS s) (hEx : xEx z A s s.heap) (hA : ∀ q, s.heap.size ≤ q → A q) (hI : xI xtb a) (hR : 100 ≤ R.frames ∧ 4000 ≤ R.locals ∧ 600000 ≤ R.cells ∧ 7302250 ≤ R.slots) (hL : L ≤ 1000) (hF : nF s) (hkn : k ≤ R.cells ∧ n ≤ R.slots) (hN4 : N ≤ 4) (hem : ldS rd N 6 0 = (N : Nat)) (h49 : ∀ z : Int, 0 ≤ z → z < (N : Nat) → η 1 z ≤ 4) (hfl : foL gn 6 N rd η = (v, pe)) (v0 : 0 ≤ v) (kk : ∀ (S1 : xSt) (fo : Nat → Int32) (hB : BX η gn S1) (hi : iX η S1) (hsx : sX 1 N rd S1) (hfo : ∀ j : Nat, j < N → fo j = ki (gp pe j)) (H : Heap) (locs : List Loc) (ls : Array Slot), lv_has ls 21 [(0, .ref b), (1, .ref (a 0)), (2, .ref z0), (3, .ref y), (15, .ref qa), (16, .int (ki v)), (17, .ref qo)] → va_P D vwCl (List.flatten [[(z0, .inr (12, [.ref b, .ref q1, .ref q2, .ref q3, .ref q4, .ref q5, .ref q6, .ref q7])), (q1, .inl (cy 0, 6, .inl fh)), (q2, .inl (cy 0, 30, .inl fd)), (q4, .inl (cy 0, 30, .inl fs))], [(qa, .inl (cy 0, N, .inl fa))], [(qo, .inl (cy 0, N, .inl fo))], w, xW cy xtb a S1]) H → va_D A (List.flatten [[(z0, .inr (12, [.ref b, .ref q1, .ref q2, .ref q3, .ref q4, .ref q5, .ref q6, .ref q7])), (q1, .inl (cy 0, 6, .inl fh)), (q2, .inl (cy 0, 30, .inl fd)), (q4, .inl (cy 0, 30, .inl fs))], [(qa, .inl (cy 0, N, .inl fa))], [(qo, .inl (cy 0, N, .inl fo))], w, xW cy xtb a S1]) → va_S A s.heap H locs → W p l e R s m args below meth c H locs k n Q (F0 m 1251 ls [])) : ∀ (d i : Nat), i + d = N → ∀ (S1 : xSt) (fo : Nat → Int32) (hB : BX η gn S1) (hi : iX η S1) (hsx : sX 1 N rd S1) (hfo : ∀ j : Nat, j < i → fo j = ki (gp pe j)) (H : Heap) (locs : List Loc) (ls : Array Slot), lv_has ls 21 [(0, .ref b), (1, .ref (a 0)), (2, .ref z0), (3, .ref y), (15, .ref qa), (16, .int (ki v)), (17, .ref qo), (18, .int (ki (i : Int)))] → va_P D vwCl (List.flatten [[(z0, .inr (12, [.ref b, .ref q1, .ref q2, .ref q3, .ref q4, .ref q5, .ref q6, .ref q7])), (q1, .inl (cy 0, 6, .inl fh)), (q2, .inl (cy 0, 30, .inl fd)), (q4, .inl (cy 0, 30, .inl fs))], [(qa, .inl (cy 0, N, .inl fa))], [(qo, .inl (cy 0, N, .inl fo))], w, xW cy xtb a S1]) H → va_D A (List.flatten [[(z0, .inr (12, [.ref b, .ref q1, .ref q2, .ref q3, .ref q4, .ref q5, .ref q6, .ref q7])), (q1, .inl (cy 0, 6, .inl fh)), (q2, .inl (cy 0, 30, .inl fd)), (q4, .inl (cy 0, 30, .inl fs))], [(qa, .inl (cy 0, N, .inl fa))], [(qo, .inl (cy 0, N, .inl fo))], w, xW cy xtb a S1]) → va_S A s.heap H locs → W p l e R s m args below meth c H locs k n Q (F0 m 1223 ls []) := by
  intro d
  induction d with
  | zero =>
    intro i hix S1 fo hB hi hsx hfo H locs ls hl hP hD hS
    have hix : N = i := by omega
    subst hix
    refine lv_iload hx hb dL_law_1223 (lv_at hl 7 rfl) ?_
    refine lv_aload hx hb dL_law_1225 (lv_at hl 4 rfl) ?_
    refine va_alen (v := ki (N : Int)) hx hb hK hP 4 0 rfl rfl (nI_ki (by omega)) dL_law_1227 ?_
    refine kv_icmp_ge_t (tgt := 1251) hx hb (by omega) (by omega) (by omega) (by omega) (by omega) dL_law_1228 (by decide) ?_
    exact kk S1 fo hB hi hsx hfo H _ ls (lv_sub hl [0, 1, 2, 3, 4, 5, 6] rfl) hP hD hS
  | succ d ih =>
    intro i hix S1 fo hB hi hsx hfo H locs ls hl hP hD hS
    refine lv_iload hx hb dL_law_1223 (lv_at hl 7 rfl) ?_
    refine lv_aload hx hb dL_law_1225 (lv_at hl 4 rfl) ?_
    refine va_alen (v := ki (N : Int)) hx hb hK hP 4 0 rfl rfl (nI_ki (by omega)) dL_law_1227 ?_
    refine kv_icmp_ge_f (tgt := 1251) hx hb (by omega) (by omega) (by omega) (by omega) (by omega) dL_law_1228 (by decide) ?_
    refine lv_aload hx hb dL_law_1231 (lv_at hl 6 rfl) ?_
    refine lv_iload hx hb dL_law_1233 (lv_at hl 7 rfl) ?_
    refine lv_aload_n hx hb dL_law_1235 rfl (lv_at hl 1 rfl) ?_
    refine lv_iconst (v := ki 1) hx hb dL_law_1236 rfl ?_
    refine lv_bipush (v := ki 6) hx hb dL_law_1237 rfl ?_
    refine lv_iload hx hb dL_law_1239 (lv_at hl 7 rfl) ?_
    obtain ⟨⟨S1241, v1241⟩, hf1241, hq1241⟩ := tc_lay (S := S1) (s := 1) (N := 6) (m := N) (k := (i : Int)) hB (by omega) hsx (by omega) (by omega) (by omega) hem (A := gp pe (i : Int)) (Or.inl ⟨h49, by rw [hfl, if_neg (by omega), if_neg (by show ¬ (v < 0 ∨ (N : Int) ≤ (i : Int)); omega)]⟩)
    dsimp only at hq1241
    obtain ⟨hv9, hf9, hl9⟩ := hq1241
    subst hv9
    have hB := BX_q hB hf9 hl9
    have hi := iX_q hi hf9
    have hsx := sX_q hsx hf9
    have hPc := blk_P (bs := ([[(z0, .inr (12, [.ref b, .ref q1, .ref q2, .ref q3, .ref q4, .ref q5, .ref q6, .ref q7])), (q1, .inl (cy 0, 6, .inl fh)), (q2, .inl (cy 0, 30, .inl fd)), (q4, .inl (cy 0, 30, .inl fs))], [(qa, .inl (cy 0, N, .inl fa))], [(qo, .inl (cy 0, N, .inl fo))], w, xW cy xtb a S1] : List va_W)) (rs := ([[(z0, .inr (12, [.ref b, .ref q1, .ref q2, .ref q3, .ref q4, .ref q5, .ref q6, .ref q7])), (q1, .inl (cy 0, 6, .inl fh)), (q2, .inl (cy 0, 30, .inl fd)), (q4, .inl (cy 0, 30, .inl fs))], [(qa, .inl (cy 0, N, .inl fa))], [(qo, .inl (cy 0, N, .inl fo))], w] : List va_W)) (x := xW cy xtb a S1) 4 rfl rfl hP
    have hDc := blk_D (bs := ([[(z0, .inr (12, [.ref b, .ref q1, .ref q2, .ref q3, .ref q4, .ref q5, .ref q6, .ref q7])), (q1, .inl (cy 0, 6, .inl fh)), (q2, .inl (cy 0, 30, .inl fd)), (q4, .inl (cy 0, 30, .inl fs))], [(qa, .inl (cy 0, N, .inl fa))], [(qo, .inl (cy 0, N, .inl fo))], w, xW cy xtb a S1] : List va_W)) (rs := ([[(z0, .inr (12, [.ref b, .ref q1, .ref q2, .ref q3, .ref q4, .ref q5, .ref q6, .ref q7])), (q1, .inl (cy 0, 6, .inl fh)), (q2, .inl (cy 0, 30, .inl fd)), (q4, .inl (cy 0, 30, .inl fs))], [(qa, .inl (cy 0, N, .inl fa))], [(qo, .inl (cy 0, N, .inl fo))], w] : List va_W)) (x := xW cy xtb a S1) 4 rfl rfl hD
    refine lw_vi hx hb hml hown hts (K_sub hK) hEx hI hPc hDc hS hA (⟨xw_mem 644 (by decide +kernel) rfl, xw_mem 30 (by decide +kernel) rfl, xw_mem 641 (by decide +kernel) rfl, by decide +kernel⟩ : xML RL 181 yX11_lay cX11_lay 5 (some .int) 3) (xw_mem 642 (by decide +kernel) rfl) (xw_mem 643 (by decide +kernel) rfl) (he := rfl) (by decide) rfl [.int (ki 1), .int (ki 6), .int (ki (i : Int))] (rest := [.int (ki (i : Int)), .ref qo]) (c_X11_lay hI hf1241 _) ⟨by omega, by omega⟩ ⟨by omega, by omega⟩ rfl hl.1 rfl (Nat.le_of_ble_eq_true (rfl)) dL_law_1241 (fun H locs hPn hS => ?_)
    have hDn := xD_st (S' := S1241) hDc
    have hP := blk_P2 (bs := ([[(z0, .inr (12, [.ref b, .ref q1, .ref q2, .ref q3, .ref q4, .ref q5, .ref q6, .ref q7])), (q1, .inl (cy 0, 6, .inl fh)), (q2, .inl (cy 0, 30, .inl fd)), (q4, .inl (cy 0, 30, .inl fs))], [(qa, .inl (cy 0, N, .inl fa))], [(qo, .inl (cy 0, N, .inl fo))], w, xW cy xtb a S1241] : List va_W)) (rs := ([[(z0, .inr (12, [.ref b, .ref q1, .ref q2, .ref q3, .ref q4, .ref q5, .ref q6, .ref q7])), (q1, .inl (cy 0, 6, .inl fh)), (q2, .inl (cy 0, 30, .inl fd)), (q4, .inl (cy 0, 30, .inl fs))], [(qa, .inl (cy 0, N, .inl fa))], [(qo, .inl (cy 0, N, .inl fo))], w] : List va_W)) (x := xW cy xtb a S1241) 4 rfl rfl hPn
    have hD := blk_D2 (bs := ([[(z0, .inr (12, [.ref b, .ref q1, .ref q2, .ref q3, .ref q4, .ref q5, .ref q6, .ref q7])), (q1, .inl (cy 0, 6, .inl fh)), (q2, .inl (cy 0, 30, .inl fd)), (q4, .inl (cy 0, 30, .inl fs))], [(qa, .inl (cy 0, N, .inl fa))], [(qo, .inl (cy 0, N, .inl fo))], w, xW cy xtb a S1241] : List va_W)) (rs := ([[(z0, .inr (12, [.ref b, .ref q1, .ref q2, .ref q3, .ref q4, .ref q5, .ref q6, .ref q7])), (q1, .inl (cy 0, 6, .inl fh)), (q2, .inl (cy 0, 30, .inl fd)), (q4, .inl (cy 0, 30, .inl fs))], [(qa, .inl (cy 0, N, .inl fa))], [(qo, .inl (cy 0, N, .inl fo))], w] : List va_W)) (x := xW cy xtb a S1241) 4 rfl rfl hDn
    refine kv_ast hx hb hK hP hD hS 5 0 rfl rfl (by omega) (by omega) (by omega) dL_law_1244 (fun H locs hP hD hS => ?_)
    have hP : va_P D vwCl (List.flatten [[(z0, .inr (12, [.ref b, .ref q1, .ref q2, .ref q3, .ref q4, .ref q5, .ref q6, .ref q7])), (q1, .inl (cy 0, 6, .inl fh)), (q2, .inl (cy 0, 30, .inl fd)), (q4, .inl (cy 0, 30, .inl fs))], [(qa, .inl (cy 0, N, .inl fa))], [(qo, .inl (cy 0, N, .inl (upd fo ((i : Int)).toNat (ki (gp pe (i : Int))))))], w, xW cy xtb a S1241]) H := hP
    have hD : va_D A (List.flatten [[(z0, .inr (12, [.ref b, .ref q1, .ref q2, .ref q3, .ref q4, .ref q5, .ref q6, .ref q7])), (q1, .inl (cy 0, 6, .inl fh)), (q2, .inl (cy 0, 30, .inl fd)), (q4, .inl (cy 0, 30, .inl fs))], [(qa, .inl (cy 0, N, .inl fa))], [(qo, .inl (cy 0, N, .inl (upd fo ((i : Int)).toNat (ki (gp pe (i : Int))))))], w, xW cy xtb a S1241]) := hD
    refine lv_iinc (v := ki ((i + 1 : Nat) : Int)) (lv' := [(18, .int (ki ((i + 1 : Nat) : Int))), (0, .ref b), (1, .ref (a 0)), (2, .ref z0), (3, .ref y), (15, .ref qa), (16, .int (ki v)), (17, .ref qo)]) hx hb dL_law_1245 hl (k := 7) rfl ((ki_add _ _).trans (congrArg ki (by omega))) (by decide) rfl (fun ls hl => ?_)
    refine lv_goto (tgt := 1223) hx hb dL_law_1248 (by decide) ?_
    exact ih (i + 1) (by omega) _ _ hB hi hsx (upd_to (g := fun j => gp pe j) hfo rfl) H _ ls (lv_sub hl [1, 2, 3, 4, 5, 6, 7, 0] rfl) hP hD hS
set_option maxHeartbeats 2000000 in
set_option maxRecDepth 20000 in
theorem LY_3 (hx : p.tables.exec = Jvm.exec) (hb : c.code = cL_law) (hml : c.maxLocals = 21) (hown : s.vm.findClass RL = some m.cls) (hts : ∀ w ∈ xTB, w.before args s = true) (hK : va_K D vwCl (xtyL cy) s) (hN : jN mi s) (hZ : jZ zE zc ad A s s.heap) (hX : va_X b L xs s s.heap) (hbl : b < s.heap.size) (hbA : ¬ A b) (hNs : nS s) (hEx : xEx z A s s.heap) (hA : ∀ q, s.heap.size ≤ q → A q) (hI : xI xtb a) (hR : 100 ≤ R.frames ∧ 4000 ≤ R.locals ∧ 600000 ≤ R.cells ∧ 7302250 ≤ R.slots) (hL : L ≤ 1000) (hF : nF s) (hkn : k ≤ R.cells ∧ n ≤ R.slots) (hN4 : N ≤ 4) (hfa : ∀ j : Nat, j < N → fa j = ki (avS L xs j)) (hfo : ∀ j : Nat, j < N → fo j = ki (gp pe j)) (hp : pe ∈ P_ N) (hrd : ∀ z : Int, 0 ≤ z → z < N → rd z = avS L xs z) (hrdb : ∀ z : Int, 0 ≤ z → z < N → 0 ≤ rd z ∧ rd z ≤ 9) (h49 : ∀ z : Int, 0 ≤ z → z < (N : Nat) → η 1 z ≤ 4) (hE : bE L xs η) (hh : ∀ j : Nat, j < 6 → fh j = ki (hgS L xs j)) (kk : ∀ (S1 : xSt) (g : Int → Int) (hB : BX (uh (lyS (fun q => rd (gp pe q)) N η) 8 g) gn S1) (hi : iX η S1) (H : Heap) (locs : List Loc) (ls : Array Slot), lv_has ls 21 [(0, .ref b), (1, .ref (a 0)), (2, .ref z0), (3, .ref y), (15, .ref qa), (16, .int (ki v)), (17, .ref qo)] → va_P D vwCl (List.flatten [[(z0, .inr (12, [.ref b, .ref q1, .ref q2, .ref q3, .ref q4, .ref q5, .ref q6, .ref q7])), (q1, .inl (cy 0, 6, .inl fh)), (q2, .inl (cy 0, 30, .inl fd)), (q4, .inl (cy 0, 30, .inl fs))], [(qa, .inl (cy 0, N, .inl fa))], [(qo, .inl (cy 0, N, .inl fo))], w, xW cy xtb a S1]) H → va_D A (List.flatten [[(z0, .inr (12, [.ref b, .ref q1, .ref q2, .ref q3, .ref q4, .ref q5, .ref q6, .ref q7])), (q1, .inl (cy 0, 6, .inl fh)), (q2, .inl (cy 0, 30, .inl fd)), (q4, .inl (cy 0, 30, .inl fs))], [(qa, .inl (cy 0, N, .inl fa))], [(qo, .inl (cy 0, N, .inl fo))], w, xW cy xtb a S1]) → va_S A s.heap H locs → W p l e R s m args below meth c H locs k n Q (F0 m 1352 ls [])) : ∀ (d i : Nat), i + d = N → ∀ (S1 : xSt) (g : Int → Int) (hB : BX (uh (lyS (fun q => rd (gp pe q)) i η) 8 g) gn S1) (hi : iX η S1) (H : Heap) (locs : List Loc) (ls : Array Slot), lv_has ls 21 [(0, .ref b), (1, .ref (a 0)), (2, .ref z0), (3, .ref y), (15, .ref qa), (16, .int (ki v)), (17, .ref qo), (18, .int (ki (sbN pe i : Int))), (19, .int (ki (i : Int)))] → va_P D vwCl (List.flatten [[(z0, .inr (12, [.ref b, .ref q1, .ref q2, .ref q3, .ref q4, .ref q5, .ref q6, .ref q7])), (q1, .inl (cy 0, 6, .inl fh)), (q2, .inl (cy 0, 30, .inl fd)), (q4, .inl (cy 0, 30, .inl fs))], [(qa, .inl (cy 0, N, .inl fa))], [(qo, .inl (cy 0, N, .inl fo))], w, xW cy xtb a S1]) H → va_D A (List.flatten [[(z0, .inr (12, [.ref b, .ref q1, .ref q2, .ref q3, .ref q4, .ref q5, .ref q6, .ref q7])), (q1, .inl (cy 0, 6, .inl fh)), (q2, .inl (cy 0, 30, .inl fd)), (q4, .inl (cy 0, 30, .inl fs))], [(qa, .inl (cy 0, N, .inl fa))], [(qo, .inl (cy 0, N, .inl fo))], w, xW cy xtb a S1]) → va_S A s.heap H locs → W p l e R s m args below meth c H locs k n Q (F0 m 1257 ls []) := by
  intro d
  induction d with
  | zero =>
    intro i hix S1 g hB hi H locs ls hl hP hD hS
    have hix : N = i := by omega
    subst hix
    refine lv_iload hx hb dL_law_1257 (lv_at hl 8 rfl) ?_
    refine lv_aload hx hb dL_law_1259 (lv_at hl 4 rfl) ?_
    refine va_alen (v := ki (N : Int)) hx hb hK hP 4 0 rfl rfl (nI_ki (by omega)) dL_law_1261 ?_
    refine kv_icmp_ge_t (tgt := 1352) hx hb (by omega) (by omega) (by omega) (by omega) (by omega) dL_law_1262 (by decide) ?_
    exact kk S1 g hB hi H _ ls (lv_sub hl [0, 1, 2, 3, 4, 5, 6] rfl) hP hD hS
  | succ d ih =>
    intro i hix S1 g hB hi H locs ls hl hP hD hS
    have hsb := sb_ok hN4 hp (i := i) (by omega)
    have hgl : gN pe i < N := hsb.1
    have hrb := hrdb (gp pe (i : Int)) (by show 0 ≤ ((gN pe (i : Int).toNat : Nat) : Int); omega) (by show ((gN pe i : Nat) : Int) < N; omega)
    have hly : lyS (fun q => rd (gp pe q)) i η 1 (i : Int) = η 1 (i : Int) := lyS_1 i _ (by omega)
    have hgb := hgS_b (L := L) (xs := xs) (i : Int)
    have hsl : sbN pe i < 16 := hsb.2.1
    have h49i := h49 (i : Int) (by omega) (by omega)
    have hw1 := hB.1.1 (i : Int)
    have hw2 : 0 ≤ η 1 (i : Int) := by have h9 : 0 ≤ lyS (fun q => rd (gp pe q)) i η 1 (i : Int) := hw1.1; rw [hly] at h9; exact h9
    have hpw : (2 : Nat) ^ gN pe i ≤ 2 ^ 3 := Nat.pow_le_pow_right (by omega) (by omega)
    have hpw8 : (2 : Nat) ^ gN pe i ≤ 8 := hpw
    have hpi : ((2 ^ gN pe i : Nat) : Int) ≤ 8 := by omega
    have hse : (sbN pe i : Int) / ((2 ^ gN pe i : Nat) : Int) % 2 = 0 := by have := hsb.2.2; omega
    refine lv_iload hx hb dL_law_1257 (lv_at hl 8 rfl) ?_
    refine lv_aload hx hb dL_law_1259 (lv_at hl 4 rfl) ?_
    refine va_alen (v := ki (N : Int)) hx hb hK hP 4 0 rfl rfl (nI_ki (by omega)) dL_law_1261 ?_
    refine kv_icmp_ge_f (tgt := 1352) hx hb (by omega) (by omega) (by omega) (by omega) (by omega) dL_law_1262 (by decide) ?_
    refine lv_aload hx hb dL_law_1265 (lv_at hl 6 rfl) ?_
    refine lv_iload hx hb dL_law_1267 (lv_at hl 8 rfl) ?_
    refine kv_ald hx hb hK hP 5 0 rfl rfl (v := ((gN pe i : Nat) : Int)) (by omega) (by omega) (by omega) (show fo ((i : Int)).toNat = ki ((gN pe i : Nat) : Int) from by rw [show ((i : Int)).toNat = i from rfl, hfo i (by omega)]; rfl) dL_law_1269 ?_
    refine kv_if_lt_f (tgt := 1298) hx hb (by omega) (by omega) (by omega) dL_law_1270 (by decide) ?_
    refine lv_aload hx hb dL_law_1273 (lv_at hl 6 rfl) ?_
    refine lv_iload hx hb dL_law_1275 (lv_at hl 8 rfl) ?_
    refine kv_ald hx hb hK hP 5 0 rfl rfl (v := ((gN pe i : Nat) : Int)) (by omega) (by omega) (by omega) (show fo ((i : Int)).toNat = ki ((gN pe i : Nat) : Int) from by rw [show ((i : Int)).toNat = i from rfl, hfo i (by omega)]; rfl) dL_law_1277 ?_
    refine lv_aload hx hb dL_law_1278 (lv_at hl 4 rfl) ?_
    refine va_alen (v := ki (N : Int)) hx hb hK hP 4 0 rfl rfl (nI_ki (by omega)) dL_law_1280 ?_
    refine kv_icmp_ge_f (tgt := 1298) hx hb (by omega) (by omega) (by omega) (by omega) (by omega) dL_law_1281 (by decide) ?_
    refine lv_iload hx hb dL_law_1284 (lv_at hl 7 rfl) ?_
    refine lv_aload hx hb dL_law_1286 (lv_at hl 6 rfl) ?_
    refine lv_iload hx hb dL_law_1288 (lv_at hl 8 rfl) ?_
    refine kv_ald hx hb hK hP 5 0 rfl rfl (v := ((gN pe i : Nat) : Int)) (by omega) (by omega) (by omega) (show fo ((i : Int)).toNat = ki ((gN pe i : Nat) : Int) from by rw [show ((i : Int)).toNat = i from rfl, hfo i (by omega)]; rfl) dL_law_1290 ?_
    have hdv := dv_b (x := (sbN pe i : Int)) (by omega) (gN pe i)
    refine kv_shr (r := (sbN pe i : Int) / ((2 ^ gN pe i : Nat) : Int)) hx hb (gN pe i) rfl (by omega) (by omega) (by omega) rfl dL_law_1291 ?_
    refine lv_iconst (v := ki 1) hx hb dL_law_1292 rfl ?_
    refine kv_and (r := 0) hx hb 1 rfl (by omega) (by omega) (by omega) (by have := hsb.2.2; omega) dL_law_1293 ?_
    refine lv_iconst (v := ki 1) hx hb dL_law_1294 rfl ?_
    refine kv_icmp_ne_t (tgt := 1300) hx hb (by omega) (by omega) (by omega) (by omega) (by omega) dL_law_1295 (by decide) ?_
    refine lv_iload hx hb dL_law_1300 (lv_at hl 7 rfl) ?_
    refine lv_iconst (v := ki 1) hx hb dL_law_1302 rfl ?_
    refine lv_aload hx hb dL_law_1303 (lv_at hl 6 rfl) ?_
    refine lv_iload hx hb dL_law_1305 (lv_at hl 8 rfl) ?_
    refine kv_ald hx hb hK hP 5 0 rfl rfl (v := ((gN pe i : Nat) : Int)) (by omega) (by omega) (by omega) (show fo ((i : Int)).toNat = ki ((gN pe i : Nat) : Int) from by rw [show ((i : Int)).toNat = i from rfl, hfo i (by omega)]; rfl) dL_law_1307 ?_
    refine kv_shl (r := ((2 ^ gN pe i : Nat) : Int)) hx hb (gN pe i) rfl (by omega) (by omega) (by rw [Int.one_mul]; omega) (Int.one_mul _) dL_law_1308 ?_
    refine lv_ior hx hb dL_law_1309 ?_
    rw [show ki (sbN pe i : Int) ||| ki ((2 ^ gN pe i : Nat) : Int) = ki ((sbN pe (i + 1) : Nat) : Int) from sb_or _ hsb.2.1 _ (by omega)]
    refine lv_istore (lv' := [(18, .int (ki ((sbN pe (i + 1) : Nat) : Int))), (0, .ref b), (1, .ref (a 0)), (2, .ref z0), (3, .ref y), (15, .ref qa), (16, .int (ki v)), (17, .ref qo), (19, .int (ki (i : Int)))]) hx hb dL_law_1310 hl (by decide) rfl (fun ls hl => ?_)
    refine lv_aload_n hx hb dL_law_1312 rfl (lv_at hl 2 rfl) ?_
    refine lv_iload hx hb dL_law_1313 (lv_at hl 8 rfl) ?_
    refine lv_bipush (v := ki 10) hx hb dL_law_1315 rfl ?_
    refine lv_aload hx hb dL_law_1317 (lv_at hl 5 rfl) ?_
    refine lv_aload hx hb dL_law_1319 (lv_at hl 7 rfl) ?_
    refine lv_iload hx hb dL_law_1321 (lv_at hl 8 rfl) ?_
    refine kv_ald hx hb hK hP 5 0 rfl rfl (v := ((gN pe i : Nat) : Int)) (by omega) (by omega) (by omega) (show fo ((i : Int)).toNat = ki ((gN pe i : Nat) : Int) from by rw [show ((i : Int)).toNat = i from rfl, hfo i (by omega)]; rfl) dL_law_1323 ?_
    refine kv_ald hx hb hK hP 4 0 rfl rfl (v := rd (gp pe (i : Int))) (by omega) (by omega) (by omega) (by rw [show (((gN pe i : Nat) : Int)).toNat = gN pe i from rfl, hfa _ hsb.1, ← hrd _ (by omega) (by omega)]; rfl) dL_law_1324 ?_
    refine kv_mul (r := 10 * rd (gp pe (i : Int)) + 0) hx hb (by omega) dL_law_1325 ?_
    obtain ⟨⟨S1326, v1326⟩, hf1326, hq1326⟩ := t_cart8 (S := S1) hB (c := (i : Int)) (d := rd (gp pe (i : Int))) (l := 0) (by omega) (by omega) hrb.1 hrb.2 (by omega) (by omega) (by rw [hly]; exact h49 _ (by omega) (by omega))
    dsimp only at hq1326
    obtain ⟨hv9, hB, hf9⟩ := hq1326
    subst hv9
    have hi := iX_2 hi hf9
    rw [hly] at hf1326
    have hPc := blk_P (bs := ([[(z0, .inr (12, [.ref b, .ref q1, .ref q2, .ref q3, .ref q4, .ref q5, .ref q6, .ref q7])), (q1, .inl (cy 0, 6, .inl fh)), (q2, .inl (cy 0, 30, .inl fd)), (q4, .inl (cy 0, 30, .inl fs))], [(qa, .inl (cy 0, N, .inl fa))], [(qo, .inl (cy 0, N, .inl fo))], w, xW cy xtb a S1] : List va_W)) (rs := ([[(z0, .inr (12, [.ref b, .ref q1, .ref q2, .ref q3, .ref q4, .ref q5, .ref q6, .ref q7])), (q1, .inl (cy 0, 6, .inl fh)), (q2, .inl (cy 0, 30, .inl fd)), (q4, .inl (cy 0, 30, .inl fs))], [(qa, .inl (cy 0, N, .inl fa))], [(qo, .inl (cy 0, N, .inl fo))], w] : List va_W)) (x := xW cy xtb a S1) 4 rfl rfl hP
    have hDc := blk_D (bs := ([[(z0, .inr (12, [.ref b, .ref q1, .ref q2, .ref q3, .ref q4, .ref q5, .ref q6, .ref q7])), (q1, .inl (cy 0, 6, .inl fh)), (q2, .inl (cy 0, 30, .inl fd)), (q4, .inl (cy 0, 30, .inl fs))], [(qa, .inl (cy 0, N, .inl fa))], [(qo, .inl (cy 0, N, .inl fo))], w, xW cy xtb a S1] : List va_W)) (rs := ([[(z0, .inr (12, [.ref b, .ref q1, .ref q2, .ref q3, .ref q4, .ref q5, .ref q6, .ref q7])), (q1, .inl (cy 0, 6, .inl fh)), (q2, .inl (cy 0, 30, .inl fd)), (q4, .inl (cy 0, 30, .inl fs))], [(qa, .inl (cy 0, N, .inl fa))], [(qo, .inl (cy 0, N, .inl fo))], w] : List va_W)) (x := xW cy xtb a S1) 4 rfl rfl hD
    refine lw_vi hx hb hml hown hts (K_sub hK) hEx hI hPc hDc hS hA (⟨xw_mem 423 (by decide +kernel) rfl, xw_mem 30 (by decide +kernel) rfl, xw_mem 420 (by decide +kernel) rfl, by decide +kernel⟩ : xML RL 31 yX11_cart cX11_cart 3 (some .int) 2) (xw_mem 421 (by decide +kernel) rfl) (xw_mem 422 (by decide +kernel) rfl) (he := rfl) (by decide) rfl [.int (ki (i : Int)), .int (ki (10 * rd (gp pe (i : Int)) + 0))] (rest := []) (c_X11_cart hI hf1326 _) ⟨by omega, by omega⟩ ⟨by omega, by omega⟩ rfl hl.1 rfl (Nat.le_of_ble_eq_true (rfl)) dL_law_1326 (fun H locs hPn hS => ?_)
    have hDn := xD_st (S' := S1326) hDc
    have hP := blk_P2 (bs := ([[(z0, .inr (12, [.ref b, .ref q1, .ref q2, .ref q3, .ref q4, .ref q5, .ref q6, .ref q7])), (q1, .inl (cy 0, 6, .inl fh)), (q2, .inl (cy 0, 30, .inl fd)), (q4, .inl (cy 0, 30, .inl fs))], [(qa, .inl (cy 0, N, .inl fa))], [(qo, .inl (cy 0, N, .inl fo))], w, xW cy xtb a S1326] : List va_W)) (rs := ([[(z0, .inr (12, [.ref b, .ref q1, .ref q2, .ref q3, .ref q4, .ref q5, .ref q6, .ref q7])), (q1, .inl (cy 0, 6, .inl fh)), (q2, .inl (cy 0, 30, .inl fd)), (q4, .inl (cy 0, 30, .inl fs))], [(qa, .inl (cy 0, N, .inl fa))], [(qo, .inl (cy 0, N, .inl fo))], w] : List va_W)) (x := xW cy xtb a S1326) 4 rfl rfl hPn
    have hD := blk_D2 (bs := ([[(z0, .inr (12, [.ref b, .ref q1, .ref q2, .ref q3, .ref q4, .ref q5, .ref q6, .ref q7])), (q1, .inl (cy 0, 6, .inl fh)), (q2, .inl (cy 0, 30, .inl fd)), (q4, .inl (cy 0, 30, .inl fs))], [(qa, .inl (cy 0, N, .inl fa))], [(qo, .inl (cy 0, N, .inl fo))], w, xW cy xtb a S1326] : List va_W)) (rs := ([[(z0, .inr (12, [.ref b, .ref q1, .ref q2, .ref q3, .ref q4, .ref q5, .ref q6, .ref q7])), (q1, .inl (cy 0, 6, .inl fh)), (q2, .inl (cy 0, 30, .inl fd)), (q4, .inl (cy 0, 30, .inl fs))], [(qa, .inl (cy 0, N, .inl fa))], [(qo, .inl (cy 0, N, .inl fo))], w] : List va_W)) (x := xW cy xtb a S1326) 4 rfl rfl hDn
    refine lv_iconst (v := ki 5) hx hb dL_law_1329 rfl ?_
    refine lv_iload hx hb dL_law_1330 (lv_at hl 8 rfl) ?_
    refine kv_mul (r := 5 * (i : Int)) hx hb rfl dL_law_1332 ?_
    refine lv_aload_n hx hb dL_law_1333 rfl (lv_at hl 3 rfl) ?_
    refine va_getN (ref := RX12) (host := RL) (D := D) (ci := 12) (v := .ref q1) (C := RX12) (T := TX12) (N := 8) hx hb hts xin_X12 hown hK hP 0 rfl rfl 1 (by decide) (va_Nw.use rfl hF.1) (fun _ h9 => h9) rfl dL_law_1334 ?_
    refine lv_iload hx hb dL_law_1337 (lv_at hl 8 rfl) ?_
    refine kv_ald hx hb hK hP 1 0 rfl rfl (v := hgS L xs (i : Int)) (by omega) (by omega) (by omega) (hh i (by omega)) dL_law_1339 ?_
    refine kv_add (r := (5 * (i : Int)) + (hgS L xs (i : Int))) hx hb rfl dL_law_1340 ?_
    refine kv_icmp_eq_t (tgt := 1346) hx hb (by rw [hE.1 _ (by omega) (by omega)]) (by omega) (by omega) (by omega) (by omega) dL_law_1341 (by decide) ?_
    refine lv_iinc (v := ki ((i + 1 : Nat) : Int)) (lv' := [(19, .int (ki ((i + 1 : Nat) : Int))), (18, .int (ki ((sbN pe (i + 1) : Nat) : Int))), (0, .ref b), (1, .ref (a 0)), (2, .ref z0), (3, .ref y), (15, .ref qa), (16, .int (ki v)), (17, .ref qo)]) hx hb dL_law_1346 hl (k := 8) rfl ((ki_add _ _).trans (congrArg ki (by omega))) (by decide) rfl (fun ls hl => ?_)
    refine lv_goto (tgt := 1257) hx hb dL_law_1349 (by decide) ?_
    exact ih (i + 1) (by omega) _ _ hB hi H _ ls (lv_sub hl [2, 3, 4, 5, 6, 7, 8, 1, 0] rfl) hP hD hS
set_option maxHeartbeats 2000000 in
set_option maxRecDepth 20000 in
theorem LY_4 (hx : p.tables.exec = Jvm.exec) (hb : c.code = cL_law) (hml : c.maxLocals = 21) (hown : s.vm.findClass RL = some m.cls) (hts : ∀ w ∈ xTB, w.before args s = true) (hK : va_K D vwCl (xtyL cy) s) (hN : jN mi s) (hZ : jZ zE zc ad A s s.heap) (hX : va_X b L xs s s.heap) (hbl : b < s.heap.size) (hbA : ¬ A b) (hNs : nS s) (hEx : xEx z A s s.heap) (hA : ∀ q, s.heap.size ≤ q → A q) (hI : xI xtb a) (hR : 100 ≤ R.frames ∧ 4000 ≤ R.locals ∧ 600000 ≤ R.cells ∧ 7302250 ≤ R.slots) (hL : L ≤ 1000) (hF : nF s) (hkn : k ≤ R.cells ∧ n ≤ R.slots) (hN4 : N ≤ 4) (hfa : ∀ j : Nat, j < N → fa j = ki (avS L xs j)) (hrd : ∀ z : Int, 0 ≤ z → z < N → rd z = avS L xs z) (hrdb : ∀ z : Int, 0 ≤ z → z < N → 0 ≤ rd z ∧ rd z ≤ 9) (h49 : ∀ z : Int, 0 ≤ z → z < (N : Nat) → η 1 z ≤ 4) (kk : ∀ (S1 : xSt) (g : Int → Int) (hB : BX (uh (lyS (fun q => rd (q : Int)) N η) 8 g) gn S1) (hi : iX η S1) (H : Heap) (locs : List Loc) (ls : Array Slot), lv_has ls 21 [(0, .ref b), (1, .ref (a 0)), (2, .ref z0), (3, .ref y), (15, .ref qa), (16, .int (ki v))] → va_P D vwCl (List.flatten [[(z0, .inr (12, [.ref b, .ref q1, .ref q2, .ref q3, .ref q4, .ref q5, .ref q6, .ref q7])), (q1, .inl (cy 0, 6, .inl fh)), (q2, .inl (cy 0, 30, .inl fd)), (q4, .inl (cy 0, 30, .inl fs))], [(qa, .inl (cy 0, N, .inl fa))], [(qo, .inl (cy 0, N, .inl fo))], w, xW cy xtb a S1]) H → va_D A (List.flatten [[(z0, .inr (12, [.ref b, .ref q1, .ref q2, .ref q3, .ref q4, .ref q5, .ref q6, .ref q7])), (q1, .inl (cy 0, 6, .inl fh)), (q2, .inl (cy 0, 30, .inl fd)), (q4, .inl (cy 0, 30, .inl fs))], [(qa, .inl (cy 0, N, .inl fa))], [(qo, .inl (cy 0, N, .inl fo))], w, xW cy xtb a S1]) → va_S A s.heap H locs → W p l e R s m args below meth c H locs k n Q (F0 m 1409 ls [])) : ∀ (d i : Nat), i + d = N → ∀ (S1 : xSt) (g : Int → Int) (hB : BX (uh (lyS (fun q => rd (q : Int)) i η) 8 g) gn S1) (hi : iX η S1) (H : Heap) (locs : List Loc) (ls : Array Slot), lv_has ls 21 [(0, .ref b), (1, .ref (a 0)), (2, .ref z0), (3, .ref y), (15, .ref qa), (16, .int (ki v)), (19, .int (ki (i : Int)))] → va_P D vwCl (List.flatten [[(z0, .inr (12, [.ref b, .ref q1, .ref q2, .ref q3, .ref q4, .ref q5, .ref q6, .ref q7])), (q1, .inl (cy 0, 6, .inl fh)), (q2, .inl (cy 0, 30, .inl fd)), (q4, .inl (cy 0, 30, .inl fs))], [(qa, .inl (cy 0, N, .inl fa))], [(qo, .inl (cy 0, N, .inl fo))], w, xW cy xtb a S1]) H → va_D A (List.flatten [[(z0, .inr (12, [.ref b, .ref q1, .ref q2, .ref q3, .ref q4, .ref q5, .ref q6, .ref q7])), (q1, .inl (cy 0, 6, .inl fh)), (q2, .inl (cy 0, 30, .inl fd)), (q4, .inl (cy 0, 30, .inl fs))], [(qa, .inl (cy 0, N, .inl fa))], [(qo, .inl (cy 0, N, .inl fo))], w, xW cy xtb a S1]) → va_S A s.heap H locs → W p l e R s m args below meth c H locs k n Q (F0 m 1376 ls []) := by
  intro d
  induction d with
  | zero =>
    intro i hix S1 g hB hi H locs ls hl hP hD hS
    have hix : N = i := by omega
    subst hix
    refine lv_iload hx hb dL_law_1376 (lv_at hl 6 rfl) ?_
    refine lv_aload hx hb dL_law_1378 (lv_at hl 4 rfl) ?_
    refine va_alen (v := ki (N : Int)) hx hb hK hP 4 0 rfl rfl (nI_ki (by omega)) dL_law_1380 ?_
    refine kv_icmp_ge_t (tgt := 1409) hx hb (by omega) (by omega) (by omega) (by omega) (by omega) dL_law_1381 (by decide) ?_
    exact kk S1 g hB hi H _ ls (lv_sub hl [0, 1, 2, 3, 4, 5] rfl) hP hD hS
  | succ d ih =>
    intro i hix S1 g hB hi H locs ls hl hP hD hS
    have hrb := hrdb (i : Int) (by omega) (by omega)
    have hly : lyS (fun q => rd (q : Int)) i η 1 (i : Int) = η 1 (i : Int) := lyS_1 i _ (by omega)
    have h49i := h49 (i : Int) (by omega) (by omega)
    have hw1 := hB.1.1 (i : Int)
    have hw2 : 0 ≤ η 1 (i : Int) := by have h9 : 0 ≤ lyS (fun q => rd (q : Int)) i η 1 (i : Int) := hw1.1; rw [hly] at h9; exact h9
    refine lv_iload hx hb dL_law_1376 (lv_at hl 6 rfl) ?_
    refine lv_aload hx hb dL_law_1378 (lv_at hl 4 rfl) ?_
    refine va_alen (v := ki (N : Int)) hx hb hK hP 4 0 rfl rfl (nI_ki (by omega)) dL_law_1380 ?_
    refine kv_icmp_ge_f (tgt := 1409) hx hb (by omega) (by omega) (by omega) (by omega) (by omega) dL_law_1381 (by decide) ?_
    refine lv_aload_n hx hb dL_law_1384 rfl (lv_at hl 1 rfl) ?_
    refine lv_iload hx hb dL_law_1385 (lv_at hl 6 rfl) ?_
    refine lv_bipush (v := ki 10) hx hb dL_law_1387 rfl ?_
    refine lv_aload hx hb dL_law_1389 (lv_at hl 4 rfl) ?_
    refine lv_iload hx hb dL_law_1391 (lv_at hl 6 rfl) ?_
    refine kv_ald hx hb hK hP 4 0 rfl rfl (v := rd (i : Int)) (by omega) (by omega) (by omega) (by rw [show ((i : Int)).toNat = i from rfl, hfa i (by omega), hrd _ (by omega) (by omega)]) dL_law_1393 ?_
    refine kv_mul (r := 10 * rd (i : Int) + 0) hx hb (by omega) dL_law_1394 ?_
    obtain ⟨⟨S1395, v1395⟩, hf1395, hq1395⟩ := t_cart8 (S := S1) hB (c := (i : Int)) (d := rd (i : Int)) (l := 0) (by omega) (by omega) hrb.1 hrb.2 (by omega) (by omega) (by rw [hly]; exact h49 _ (by omega) (by omega))
    dsimp only at hq1395
    obtain ⟨hv9, hB, hf9⟩ := hq1395
    subst hv9
    have hi := iX_2 hi hf9
    rw [hly] at hf1395
    have hPc := blk_P (bs := ([[(z0, .inr (12, [.ref b, .ref q1, .ref q2, .ref q3, .ref q4, .ref q5, .ref q6, .ref q7])), (q1, .inl (cy 0, 6, .inl fh)), (q2, .inl (cy 0, 30, .inl fd)), (q4, .inl (cy 0, 30, .inl fs))], [(qa, .inl (cy 0, N, .inl fa))], [(qo, .inl (cy 0, N, .inl fo))], w, xW cy xtb a S1] : List va_W)) (rs := ([[(z0, .inr (12, [.ref b, .ref q1, .ref q2, .ref q3, .ref q4, .ref q5, .ref q6, .ref q7])), (q1, .inl (cy 0, 6, .inl fh)), (q2, .inl (cy 0, 30, .inl fd)), (q4, .inl (cy 0, 30, .inl fs))], [(qa, .inl (cy 0, N, .inl fa))], [(qo, .inl (cy 0, N, .inl fo))], w] : List va_W)) (x := xW cy xtb a S1) 4 rfl rfl hP
    have hDc := blk_D (bs := ([[(z0, .inr (12, [.ref b, .ref q1, .ref q2, .ref q3, .ref q4, .ref q5, .ref q6, .ref q7])), (q1, .inl (cy 0, 6, .inl fh)), (q2, .inl (cy 0, 30, .inl fd)), (q4, .inl (cy 0, 30, .inl fs))], [(qa, .inl (cy 0, N, .inl fa))], [(qo, .inl (cy 0, N, .inl fo))], w, xW cy xtb a S1] : List va_W)) (rs := ([[(z0, .inr (12, [.ref b, .ref q1, .ref q2, .ref q3, .ref q4, .ref q5, .ref q6, .ref q7])), (q1, .inl (cy 0, 6, .inl fh)), (q2, .inl (cy 0, 30, .inl fd)), (q4, .inl (cy 0, 30, .inl fs))], [(qa, .inl (cy 0, N, .inl fa))], [(qo, .inl (cy 0, N, .inl fo))], w] : List va_W)) (x := xW cy xtb a S1) 4 rfl rfl hD
    refine lw_vi hx hb hml hown hts (K_sub hK) hEx hI hPc hDc hS hA (⟨xw_mem 423 (by decide +kernel) rfl, xw_mem 30 (by decide +kernel) rfl, xw_mem 420 (by decide +kernel) rfl, by decide +kernel⟩ : xML RL 31 yX11_cart cX11_cart 3 (some .int) 2) (xw_mem 421 (by decide +kernel) rfl) (xw_mem 422 (by decide +kernel) rfl) (he := rfl) (by decide) rfl [.int (ki (i : Int)), .int (ki (10 * rd (i : Int) + 0))] (rest := []) (c_X11_cart hI hf1395 _) ⟨by omega, by omega⟩ ⟨by omega, by omega⟩ rfl hl.1 rfl (Nat.le_of_ble_eq_true (rfl)) dL_law_1395 (fun H locs hPn hS => ?_)
    have hDn := xD_st (S' := S1395) hDc
    have hP := blk_P2 (bs := ([[(z0, .inr (12, [.ref b, .ref q1, .ref q2, .ref q3, .ref q4, .ref q5, .ref q6, .ref q7])), (q1, .inl (cy 0, 6, .inl fh)), (q2, .inl (cy 0, 30, .inl fd)), (q4, .inl (cy 0, 30, .inl fs))], [(qa, .inl (cy 0, N, .inl fa))], [(qo, .inl (cy 0, N, .inl fo))], w, xW cy xtb a S1395] : List va_W)) (rs := ([[(z0, .inr (12, [.ref b, .ref q1, .ref q2, .ref q3, .ref q4, .ref q5, .ref q6, .ref q7])), (q1, .inl (cy 0, 6, .inl fh)), (q2, .inl (cy 0, 30, .inl fd)), (q4, .inl (cy 0, 30, .inl fs))], [(qa, .inl (cy 0, N, .inl fa))], [(qo, .inl (cy 0, N, .inl fo))], w] : List va_W)) (x := xW cy xtb a S1395) 4 rfl rfl hPn
    have hD := blk_D2 (bs := ([[(z0, .inr (12, [.ref b, .ref q1, .ref q2, .ref q3, .ref q4, .ref q5, .ref q6, .ref q7])), (q1, .inl (cy 0, 6, .inl fh)), (q2, .inl (cy 0, 30, .inl fd)), (q4, .inl (cy 0, 30, .inl fs))], [(qa, .inl (cy 0, N, .inl fa))], [(qo, .inl (cy 0, N, .inl fo))], w, xW cy xtb a S1395] : List va_W)) (rs := ([[(z0, .inr (12, [.ref b, .ref q1, .ref q2, .ref q3, .ref q4, .ref q5, .ref q6, .ref q7])), (q1, .inl (cy 0, 6, .inl fh)), (q2, .inl (cy 0, 30, .inl fd)), (q4, .inl (cy 0, 30, .inl fs))], [(qa, .inl (cy 0, N, .inl fa))], [(qo, .inl (cy 0, N, .inl fo))], w] : List va_W)) (x := xW cy xtb a S1395) 4 rfl rfl hDn
    refine kv_if_ge_t (tgt := 1403) hx hb (by omega) (by omega) (by omega) dL_law_1398 (by decide) ?_
    refine lv_iinc (v := ki ((i + 1 : Nat) : Int)) (lv' := [(19, .int (ki ((i + 1 : Nat) : Int))), (0, .ref b), (1, .ref (a 0)), (2, .ref z0), (3, .ref y), (15, .ref qa), (16, .int (ki v))]) hx hb dL_law_1403 hl (k := 6) rfl ((ki_add _ _).trans (congrArg ki (by omega))) (by decide) rfl (fun ls hl => ?_)
    refine lv_goto (tgt := 1376) hx hb dL_law_1406 (by decide) ?_
    exact ih (i + 1) (by omega) _ _ hB hi H _ ls (lv_sub hl [1, 2, 3, 4, 5, 6, 0] rfl) hP hD hS
theorem st_1 (ζ : Hy) : stS ζ 1 = hhS ζ := rfl
theorem hh_u8 (ζ : Hy) (g : Int → Int) : hhS (uh ζ 8 g) = hhS ζ := rfl
theorem vL_e {M : Nat} : vL gn M N rd η pe = hhS (daysN gn M (lyS (fun q => rd (gp pe q)) N η)) := rfl
theorem xP_left {D : va_G} {cl : List vw_C} {H : Heap} {w1 w2 : va_W} (h : va_P D cl (w1 ++ w2) H) : va_P D cl w1 H := fun k q hk => h k q (by
  rw [List.getElem?_append_left (List.getElem?_eq_some_iff.mp hk).1]; exact hk)
theorem drp_P {D : va_G} {cl : List vw_C} {H : Heap} {bs rs : List va_W} {x : va_W} (i : Nat) (hi : bs[i]? = some x) (hr : bs.eraseIdx i = rs) (h : va_P D cl bs.flatten H) : va_P D cl rs.flatten H := xP_left (blk_P i hi hr h)
theorem drp_D {A : Nat → Prop} {bs rs : List va_W} {x : va_W} (i : Nat) (hi : bs[i]? = some x) (hr : bs.eraseIdx i = rs) (h : va_D A bs.flatten) : va_D A rs.flatten := xD_left (blk_D i hi hr h)
set_option maxHeartbeats 4000000 in
set_option maxRecDepth 20000 in
theorem LW_lay (hx : p.tables.exec = Jvm.exec) (hb : c.code = cL_law) (hml : c.maxLocals = 21) (hown : s.vm.findClass RL = some m.cls) (hts : ∀ w ∈ xTB, w.before args s = true) (hK : va_K D vwCl (xtyL cy) s) (hN : jN mi s) (hZ : jZ zE zc ad A s s.heap) (hX : va_X b L xs s s.heap) (hbl : b < s.heap.size) (hbA : ¬ A b) (hNs : nS s) (hEx : xEx z A s s.heap) (hA : ∀ q, s.heap.size ≤ q → A q) (hI : xI xtb a) (hR : 100 ≤ R.frames ∧ 4000 ≤ R.locals ∧ 600000 ≤ R.cells ∧ 7302250 ≤ R.slots) (hL : L ≤ 1000) (hF : nF s) (hh : ∀ j : Nat, j < 6 → fh j = ki (hgS L xs j)) (hdm : ∀ j : Nat, j < 30 → fd j = ki (nuS L xs j 0)) (hsl : ∀ j : Nat, j < 30 → fs j = ki (nuS L xs j 3)) (hw9 : isL cy zE ad y (csI L xs 30) w) (hE : bE L xs η) (hB : BX η gn S) (hi : iX η S) (hkn2 : k + 2 ≤ R.cells ∧ n + 8 ≤ R.slots) (kk : ∀ (S : xSt) (k' n' : Nat) (hk9 : k' ≤ k + 2) (hn9 : n' ≤ n + 8) (hB : BX η gn S) (hi : iX η S) (H : Heap) (locs : List Loc) (ls : Array Slot), lv_has ls 21 [(0, .ref b), (1, .ref (a 0)), (2, .ref z0), (3, .ref y)] → va_P D vwCl (List.flatten [[(z0, .inr (12, [.ref b, .ref q1, .ref q2, .ref q3, .ref q4, .ref q5, .ref q6, .ref q7])), (q1, .inl (cy 0, 6, .inl fh)), (q2, .inl (cy 0, 30, .inl fd)), (q4, .inl (cy 0, 30, .inl fs))], w, xW cy xtb a S]) H → va_D A (List.flatten [[(z0, .inr (12, [.ref b, .ref q1, .ref q2, .ref q3, .ref q4, .ref q5, .ref q6, .ref q7])), (q1, .inl (cy 0, 6, .inl fh)), (q2, .inl (cy 0, 30, .inl fd)), (q4, .inl (cy 0, 30, .inl fs))], w, xW cy xtb a S]) → va_S A s.heap H locs → W p l e R s m args below meth c H locs k' n' Q (F0 m 1430 ls [])) {H : Heap} {locs : List Loc} {ls : Array Slot} (hl : lv_has ls 21 [(0, .ref b), (1, .ref (a 0)), (2, .ref z0), (3, .ref y)]) (hP : va_P D vwCl (List.flatten [[(z0, .inr (12, [.ref b, .ref q1, .ref q2, .ref q3, .ref q4, .ref q5, .ref q6, .ref q7])), (q1, .inl (cy 0, 6, .inl fh)), (q2, .inl (cy 0, 30, .inl fd)), (q4, .inl (cy 0, 30, .inl fs))], w, xW cy xtb a S]) H) (hD : va_D A (List.flatten [[(z0, .inr (12, [.ref b, .ref q1, .ref q2, .ref q3, .ref q4, .ref q5, .ref q6, .ref q7])), (q1, .inl (cy 0, 6, .inl fh)), (q2, .inl (cy 0, 30, .inl fd)), (q4, .inl (cy 0, 30, .inl fs))], w, xW cy xtb a S])) (hS : va_S A s.heap H locs) : W p l e R s m args below meth c H locs k n Q (F0 m 1138 ls []) := by
  have hwf := hB.1
  obtain ⟨N, eN⟩ : ∃ N : Nat, ceS L xs 17 % 5 = (N : Int) := ⟨(ceS L xs 17 % 5).toNat, by omega⟩
  have hN4 : N ≤ 4 := by omega
  refine lv_aload_n hx hb dL_law_1138 rfl (lv_at hl 0 rfl) ?_
  refine lv_bipush (v := ki 17) hx hb dL_law_1139 rfl ?_
  refine lk_pure hx hb hml hown hts hX hbl hbA hS hA (⟨xw_mem 795 (by decide +kernel) rfl, xw_mem 29 (by decide +kernel) rfl, xw_mem 800 (by decide +kernel) rfl, by decide +kernel⟩ : xML RL 17 yL_cell cL_cell 2 (some .int) 2) (xw_mem 794 (by decide +kernel) rfl) (As := [.ref b, .int (ki 17)]) (rest := []) (c_L_cell (i := 17) hL (by omega) (by omega) _) ⟨(by omega), (by omega)⟩ ⟨by omega, by omega⟩ rfl hl.1 rfl (Nat.le_of_ble_eq_true (rfl)) dL_law_1141 (fun H locs hP9 hS => ?_)
  have hP := hP9 _ _ _ hP
  refine lv_iconst (v := ki 5) hx hb dL_law_1144 rfl ?_
  have hc9 := ceS_b (L := L) (xs := xs) (i := 17) (by omega) (by omega)
  refine kv_rem (r := (N : Int)) hx hb (by omega) (by omega) (by omega) (by omega) (by omega) dL_law_1145 ?_
  refine x_newa (atype := .int) (ty := .int) hx hb (hts _ xar_i) rfl hK 0 rfl hP hD hS hA (N' := N) (a0 := (N, .inl (fun _ => (0 : Int32)))) rfl (by rw [kl_0, ki_lt (by omega) (by omega) (by omega) (by omega)]; omega) (by rw [kcl (by omega) (by omega)]; omega) (by show N * 4 ≤ 536870912; omega) (by omega) (by omega) dL_law_1146 (fun qa H hPn hDn hS _ _ => ?_)
  have hP := blk_P2 (bs := ([[(z0, .inr (12, [.ref b, .ref q1, .ref q2, .ref q3, .ref q4, .ref q5, .ref q6, .ref q7])), (q1, .inl (cy 0, 6, .inl fh)), (q2, .inl (cy 0, 30, .inl fd)), (q4, .inl (cy 0, 30, .inl fs))], [(qa, .inl (cy 0, N, .inl (fun _ => (0 : Int32))))], w, xW cy xtb a S] : List va_W)) (rs := ([[(z0, .inr (12, [.ref b, .ref q1, .ref q2, .ref q3, .ref q4, .ref q5, .ref q6, .ref q7])), (q1, .inl (cy 0, 6, .inl fh)), (q2, .inl (cy 0, 30, .inl fd)), (q4, .inl (cy 0, 30, .inl fs))], w, xW cy xtb a S] : List va_W)) (x := [(qa, .inl (cy 0, N, .inl (fun _ => (0 : Int32))))]) 1 rfl rfl hPn
  have hD := blk_D2 (bs := ([[(z0, .inr (12, [.ref b, .ref q1, .ref q2, .ref q3, .ref q4, .ref q5, .ref q6, .ref q7])), (q1, .inl (cy 0, 6, .inl fh)), (q2, .inl (cy 0, 30, .inl fd)), (q4, .inl (cy 0, 30, .inl fs))], [(qa, .inl (cy 0, N, .inl (fun _ => (0 : Int32))))], w, xW cy xtb a S] : List va_W)) (rs := ([[(z0, .inr (12, [.ref b, .ref q1, .ref q2, .ref q3, .ref q4, .ref q5, .ref q6, .ref q7])), (q1, .inl (cy 0, 6, .inl fh)), (q2, .inl (cy 0, 30, .inl fd)), (q4, .inl (cy 0, 30, .inl fs))], w, xW cy xtb a S] : List va_W)) (x := [(qa, .inl (cy 0, N, .inl (fun _ => (0 : Int32))))]) 1 rfl rfl hDn
  refine lv_astore (lv' := [(15, .ref qa), (0, .ref b), (1, .ref (a 0)), (2, .ref z0), (3, .ref y)]) hx hb dL_law_1148 hl (by decide) rfl (fun ls hl => ?_)
  refine lv_iconst (v := ki 0) hx hb dL_law_1150 rfl ?_
  refine lv_istore (lv' := [(16, .int (ki 0)), (15, .ref qa), (0, .ref b), (1, .ref (a 0)), (2, .ref z0), (3, .ref y)]) hx hb dL_law_1151 hl (by decide) rfl (fun ls hl => ?_)
  refine LY_1 hx hb hml hown hts hK hN hZ hX hbl hbA hNs hEx hA hI hR hL hF ⟨by omega, by omega⟩ hN4 (fun S1 fa hB hi hfa H locs ls hl hP hD hS => ?_) N 0 (by omega) _ _ hB hi (fun j hj => absurd hj (Nat.not_lt_zero j)) _ _ ls (lv_sub hl [2, 3, 4, 5, 1, 0] rfl) hP hD hS
  refine lv_aload_n hx hb dL_law_1186 rfl (lv_at hl 1 rfl) ?_
  refine lv_iconst (v := ki 1) hx hb dL_law_1187 rfl ?_
  refine lv_aload hx hb dL_law_1188 (lv_at hl 4 rfl) ?_
  have hPc := xP_perm hP (blk2_perm (bs := ([[(z0, .inr (12, [.ref b, .ref q1, .ref q2, .ref q3, .ref q4, .ref q5, .ref q6, .ref q7])), (q1, .inl (cy 0, 6, .inl fh)), (q2, .inl (cy 0, 30, .inl fd)), (q4, .inl (cy 0, 30, .inl fs))], [(qa, .inl (cy 0, N, .inl fa))], w, xW cy xtb a S1] : List va_W)) (r1 := ([[(z0, .inr (12, [.ref b, .ref q1, .ref q2, .ref q3, .ref q4, .ref q5, .ref q6, .ref q7])), (q1, .inl (cy 0, 6, .inl fh)), (q2, .inl (cy 0, 30, .inl fd)), (q4, .inl (cy 0, 30, .inl fs))], [(qa, .inl (cy 0, N, .inl fa))], w] : List va_W)) (rs := ([[(z0, .inr (12, [.ref b, .ref q1, .ref q2, .ref q3, .ref q4, .ref q5, .ref q6, .ref q7])), (q1, .inl (cy 0, 6, .inl fh)), (q2, .inl (cy 0, 30, .inl fd)), (q4, .inl (cy 0, 30, .inl fs))], w] : List va_W)) (x := [(qa, .inl (cy 0, N, .inl fa))]) (y := xW cy xtb a S1) 3 1 rfl rfl rfl rfl)
  have hDc := xD_perm hD (blk2_perm (bs := ([[(z0, .inr (12, [.ref b, .ref q1, .ref q2, .ref q3, .ref q4, .ref q5, .ref q6, .ref q7])), (q1, .inl (cy 0, 6, .inl fh)), (q2, .inl (cy 0, 30, .inl fd)), (q4, .inl (cy 0, 30, .inl fs))], [(qa, .inl (cy 0, N, .inl fa))], w, xW cy xtb a S1] : List va_W)) (r1 := ([[(z0, .inr (12, [.ref b, .ref q1, .ref q2, .ref q3, .ref q4, .ref q5, .ref q6, .ref q7])), (q1, .inl (cy 0, 6, .inl fh)), (q2, .inl (cy 0, 30, .inl fd)), (q4, .inl (cy 0, 30, .inl fs))], [(qa, .inl (cy 0, N, .inl fa))], w] : List va_W)) (rs := ([[(z0, .inr (12, [.ref b, .ref q1, .ref q2, .ref q3, .ref q4, .ref q5, .ref q6, .ref q7])), (q1, .inl (cy 0, 6, .inl fh)), (q2, .inl (cy 0, 30, .inl fd)), (q4, .inl (cy 0, 30, .inl fs))], w] : List va_W)) (x := [(qa, .inl (cy 0, N, .inl fa))]) (y := xW cy xtb a S1) 3 1 rfl rfl rfl rfl)
  refine kc_Si (n := 3) hx hb hml hown hts (⟨xw_mem 1032 (by decide +kernel) rfl, xw_mem 29 (by decide +kernel) rfl, xw_mem 1030 (by decide +kernel) rfl, by decide +kernel⟩ : xML RL 117 yL_put cL_put 4 (some .boolean) 3) (xw_mem 1031 (by decide +kernel) rfl) (wc := List.flatten [[(qa, .inl (cy 0, N, .inl fa))], xW cy xtb a S1]) hPc hDc hS hA [.ref (a 0), .int (ki 1), .ref qa] (rest := []) _ _ (c_L_put (S := S1) (r := 1) (N := N) (by omega) (by omega) hfa (fun z z0 z1 => by have := avS_b (L := L) (xs := xs) z; omega) _) gP_bl (fun U hU hW => gP_to (bs := [[(qa, .inl (cy 0, N, .inl fa))]]) (S := S1) hPc hDc hS hA hK hN hZ hX hbl hbA hNs hEx hU hW) ⟨by omega, by omega⟩ (by omega) (by omega) rfl hl.1 rfl (Nat.le_of_ble_eq_true (rfl)) dL_law_1190 (fun r9 u t9 H locs ht9 hw hB9 hz hJ hS => ?_)
  subst hw
  obtain ⟨⟨S1190, rd⟩, hu⟩ : ∃ v : xSt × (Int → Int), v = u := ⟨u, rfl⟩
  subst hu
  obtain ⟨hsx, hrd, he9, hP1, hD1⟩ := hB9
  dsimp only at hsx hrd he9 hP1 hD1
  rw [ht9] at hP1
  obtain ⟨hPn, hDn⟩ := hJ _ hP1 hD1
  have hB := BX_1 hB he9
  have hi := iX_1 hi he9
  have hP := xP_perm hPn (blk2_perm (bs := ([[(z0, .inr (12, [.ref b, .ref q1, .ref q2, .ref q3, .ref q4, .ref q5, .ref q6, .ref q7])), (q1, .inl (cy 0, 6, .inl fh)), (q2, .inl (cy 0, 30, .inl fd)), (q4, .inl (cy 0, 30, .inl fs))], [(qa, .inl (cy 0, N, .inl fa))], w, xW cy xtb a S1190] : List va_W)) (r1 := ([[(z0, .inr (12, [.ref b, .ref q1, .ref q2, .ref q3, .ref q4, .ref q5, .ref q6, .ref q7])), (q1, .inl (cy 0, 6, .inl fh)), (q2, .inl (cy 0, 30, .inl fd)), (q4, .inl (cy 0, 30, .inl fs))], [(qa, .inl (cy 0, N, .inl fa))], w] : List va_W)) (rs := ([[(z0, .inr (12, [.ref b, .ref q1, .ref q2, .ref q3, .ref q4, .ref q5, .ref q6, .ref q7])), (q1, .inl (cy 0, 6, .inl fh)), (q2, .inl (cy 0, 30, .inl fd)), (q4, .inl (cy 0, 30, .inl fs))], w] : List va_W)) (x := [(qa, .inl (cy 0, N, .inl fa))]) (y := xW cy xtb a S1190) 3 1 rfl rfl rfl rfl).symm
  have hD := xD_perm hDn (blk2_perm (bs := ([[(z0, .inr (12, [.ref b, .ref q1, .ref q2, .ref q3, .ref q4, .ref q5, .ref q6, .ref q7])), (q1, .inl (cy 0, 6, .inl fh)), (q2, .inl (cy 0, 30, .inl fd)), (q4, .inl (cy 0, 30, .inl fs))], [(qa, .inl (cy 0, N, .inl fa))], w, xW cy xtb a S1190] : List va_W)) (r1 := ([[(z0, .inr (12, [.ref b, .ref q1, .ref q2, .ref q3, .ref q4, .ref q5, .ref q6, .ref q7])), (q1, .inl (cy 0, 6, .inl fh)), (q2, .inl (cy 0, 30, .inl fd)), (q4, .inl (cy 0, 30, .inl fs))], [(qa, .inl (cy 0, N, .inl fa))], w] : List va_W)) (rs := ([[(z0, .inr (12, [.ref b, .ref q1, .ref q2, .ref q3, .ref q4, .ref q5, .ref q6, .ref q7])), (q1, .inl (cy 0, 6, .inl fh)), (q2, .inl (cy 0, 30, .inl fd)), (q4, .inl (cy 0, 30, .inl fs))], w] : List va_W)) (x := [(qa, .inl (cy 0, N, .inl fa))]) (y := xW cy xtb a S1190) 3 1 rfl rfl rfl rfl).symm
  refine kv_if_ne_t (tgt := 1198) hx hb (by omega) (by omega) (by omega) dL_law_1193 (by decide) ?_
  refine lv_aload_n hx hb dL_law_1198 rfl (lv_at hl 1 rfl) ?_
  refine lv_iconst (v := ki 1) hx hb dL_law_1199 rfl ?_
  refine lv_bipush (v := ki 6) hx hb dL_law_1200 rfl ?_
  refine lv_iconst (v := ki (-1)) hx hb dL_law_1202 rfl ?_
  have hrdb : ∀ z : Int, 0 ≤ z → z < N → 0 ≤ rd z ∧ rd z ≤ 9 := fun z z0 z1 => by rw [hrd z z0 z1]; exact avS_b z
  have hem : ldS rd N 6 0 = (N : Nat) := ld_all 6 0 (by omega) (by omega) (by omega) hrdb
  have hfc := fol_0 (gn := gn) (N := 6) (rd := rd) (η := η) (m := N) (by omega)
  by_cases h49 : ∀ z : Int, 0 ≤ z → z < (N : Nat) → η 1 z ≤ 4
  · rcases hfc with e | ⟨pe, hp, hfl, hv0, hmin⟩
    · obtain ⟨⟨S1203, v1203⟩, hf1203, hq1203⟩ := tc_lay (S := S1190) (s := 1) (N := 6) (m := N) (k := (-1)) hB (by omega) hsx (by omega) (by omega) (by omega) hem (A := (-2)) (Or.inl ⟨h49, by rw [if_pos (by omega), e]⟩)
      dsimp only at hq1203
      obtain ⟨hv9, hf9, hl9⟩ := hq1203
      subst hv9
      have hB := BX_q hB hf9 hl9
      have hi := iX_q hi hf9
      have hsx := sX_q hsx hf9
      have hPc := blk_P (bs := ([[(z0, .inr (12, [.ref b, .ref q1, .ref q2, .ref q3, .ref q4, .ref q5, .ref q6, .ref q7])), (q1, .inl (cy 0, 6, .inl fh)), (q2, .inl (cy 0, 30, .inl fd)), (q4, .inl (cy 0, 30, .inl fs))], [(qa, .inl (cy 0, N, .inl fa))], w, xW cy xtb a S1190] : List va_W)) (rs := ([[(z0, .inr (12, [.ref b, .ref q1, .ref q2, .ref q3, .ref q4, .ref q5, .ref q6, .ref q7])), (q1, .inl (cy 0, 6, .inl fh)), (q2, .inl (cy 0, 30, .inl fd)), (q4, .inl (cy 0, 30, .inl fs))], [(qa, .inl (cy 0, N, .inl fa))], w] : List va_W)) (x := xW cy xtb a S1190) 3 rfl rfl hP
      have hDc := blk_D (bs := ([[(z0, .inr (12, [.ref b, .ref q1, .ref q2, .ref q3, .ref q4, .ref q5, .ref q6, .ref q7])), (q1, .inl (cy 0, 6, .inl fh)), (q2, .inl (cy 0, 30, .inl fd)), (q4, .inl (cy 0, 30, .inl fs))], [(qa, .inl (cy 0, N, .inl fa))], w, xW cy xtb a S1190] : List va_W)) (rs := ([[(z0, .inr (12, [.ref b, .ref q1, .ref q2, .ref q3, .ref q4, .ref q5, .ref q6, .ref q7])), (q1, .inl (cy 0, 6, .inl fh)), (q2, .inl (cy 0, 30, .inl fd)), (q4, .inl (cy 0, 30, .inl fs))], [(qa, .inl (cy 0, N, .inl fa))], w] : List va_W)) (x := xW cy xtb a S1190) 3 rfl rfl hD
      refine lw_vi hx hb hml hown hts (K_sub hK) hEx hI hPc hDc hS hA (⟨xw_mem 644 (by decide +kernel) rfl, xw_mem 30 (by decide +kernel) rfl, xw_mem 641 (by decide +kernel) rfl, by decide +kernel⟩ : xML RL 181 yX11_lay cX11_lay 5 (some .int) 3) (xw_mem 642 (by decide +kernel) rfl) (xw_mem 643 (by decide +kernel) rfl) (he := rfl) (by decide) rfl [.int (ki 1), .int (ki 6), .int (ki (-1))] (rest := []) (c_X11_lay hI hf1203 _) ⟨by omega, by omega⟩ ⟨by omega, by omega⟩ rfl hl.1 rfl (Nat.le_of_ble_eq_true (rfl)) dL_law_1203 (fun H locs hPn hS => ?_)
      have hDn := xD_st (S' := S1203) hDc
      have hP := blk_P2 (bs := ([[(z0, .inr (12, [.ref b, .ref q1, .ref q2, .ref q3, .ref q4, .ref q5, .ref q6, .ref q7])), (q1, .inl (cy 0, 6, .inl fh)), (q2, .inl (cy 0, 30, .inl fd)), (q4, .inl (cy 0, 30, .inl fs))], [(qa, .inl (cy 0, N, .inl fa))], w, xW cy xtb a S1203] : List va_W)) (rs := ([[(z0, .inr (12, [.ref b, .ref q1, .ref q2, .ref q3, .ref q4, .ref q5, .ref q6, .ref q7])), (q1, .inl (cy 0, 6, .inl fh)), (q2, .inl (cy 0, 30, .inl fd)), (q4, .inl (cy 0, 30, .inl fs))], [(qa, .inl (cy 0, N, .inl fa))], w] : List va_W)) (x := xW cy xtb a S1203) 3 rfl rfl hPn
      have hD := blk_D2 (bs := ([[(z0, .inr (12, [.ref b, .ref q1, .ref q2, .ref q3, .ref q4, .ref q5, .ref q6, .ref q7])), (q1, .inl (cy 0, 6, .inl fh)), (q2, .inl (cy 0, 30, .inl fd)), (q4, .inl (cy 0, 30, .inl fs))], [(qa, .inl (cy 0, N, .inl fa))], w, xW cy xtb a S1203] : List va_W)) (rs := ([[(z0, .inr (12, [.ref b, .ref q1, .ref q2, .ref q3, .ref q4, .ref q5, .ref q6, .ref q7])), (q1, .inl (cy 0, 6, .inl fh)), (q2, .inl (cy 0, 30, .inl fd)), (q4, .inl (cy 0, 30, .inl fs))], [(qa, .inl (cy 0, N, .inl fa))], w] : List va_W)) (x := xW cy xtb a S1203) 3 rfl rfl hDn
      refine lv_istore (lv' := [(16, .int (ki (-2))), (0, .ref b), (1, .ref (a 0)), (2, .ref z0), (3, .ref y), (15, .ref qa)]) hx hb dL_law_1206 hl (by decide) rfl (fun ls hl => ?_)
      refine lv_iload hx hb dL_law_1208 (lv_at hl 0 rfl) ?_
      refine kv_if_lt_t (tgt := 1430) hx hb (by omega) (by omega) (by omega) dL_law_1210 (by decide) ?_
      have hP := drp_P (bs := ([[(z0, .inr (12, [.ref b, .ref q1, .ref q2, .ref q3, .ref q4, .ref q5, .ref q6, .ref q7])), (q1, .inl (cy 0, 6, .inl fh)), (q2, .inl (cy 0, 30, .inl fd)), (q4, .inl (cy 0, 30, .inl fs))], [(qa, .inl (cy 0, N, .inl fa))], w, xW cy xtb a S1203] : List va_W)) (rs := ([[(z0, .inr (12, [.ref b, .ref q1, .ref q2, .ref q3, .ref q4, .ref q5, .ref q6, .ref q7])), (q1, .inl (cy 0, 6, .inl fh)), (q2, .inl (cy 0, 30, .inl fd)), (q4, .inl (cy 0, 30, .inl fs))], w, xW cy xtb a S1203] : List va_W)) (x := [(qa, .inl (cy 0, N, .inl fa))]) 1 rfl rfl hP
      have hD := drp_D (bs := ([[(z0, .inr (12, [.ref b, .ref q1, .ref q2, .ref q3, .ref q4, .ref q5, .ref q6, .ref q7])), (q1, .inl (cy 0, 6, .inl fh)), (q2, .inl (cy 0, 30, .inl fd)), (q4, .inl (cy 0, 30, .inl fs))], [(qa, .inl (cy 0, N, .inl fa))], w, xW cy xtb a S1203] : List va_W)) (rs := ([[(z0, .inr (12, [.ref b, .ref q1, .ref q2, .ref q3, .ref q4, .ref q5, .ref q6, .ref q7])), (q1, .inl (cy 0, 6, .inl fh)), (q2, .inl (cy 0, 30, .inl fd)), (q4, .inl (cy 0, 30, .inl fs))], w, xW cy xtb a S1203] : List va_W)) (x := [(qa, .inl (cy 0, N, .inl fa))]) 1 rfl rfl hD
      exact kk S1203 _ _ (by omega) (by omega) hB hi H _ ls (lv_sub hl [1, 2, 3, 4] rfl) hP hD hS
    · have hvb : vL gn 6 N rd η pe ≤ 99 := (hhS_b (wf_days (wf_lyS (dm := fun q => rd (gp pe q)) hwf h49 (fun q hq => hrdb _ ((P_gp (by omega) hp).2 q (by omega) (by omega)).1 ((P_gp (by omega) hp).2 q (by omega) (by omega)).2) N (Nat.le_refl _)) 6)).2
      obtain ⟨⟨S1203, v1203⟩, hf1203, hq1203⟩ := tc_lay (S := S1190) (s := 1) (N := 6) (m := N) (k := (-1)) hB (by omega) hsx (by omega) (by omega) (by omega) hem (A := vL gn 6 N rd η pe) (Or.inl ⟨h49, by rw [if_pos (by omega), hfl]⟩)
      dsimp only at hq1203
      obtain ⟨hv9, hf9, hl9⟩ := hq1203
      subst hv9
      have hB := BX_q hB hf9 hl9
      have hi := iX_q hi hf9
      have hsx := sX_q hsx hf9
      have hPc := blk_P (bs := ([[(z0, .inr (12, [.ref b, .ref q1, .ref q2, .ref q3, .ref q4, .ref q5, .ref q6, .ref q7])), (q1, .inl (cy 0, 6, .inl fh)), (q2, .inl (cy 0, 30, .inl fd)), (q4, .inl (cy 0, 30, .inl fs))], [(qa, .inl (cy 0, N, .inl fa))], w, xW cy xtb a S1190] : List va_W)) (rs := ([[(z0, .inr (12, [.ref b, .ref q1, .ref q2, .ref q3, .ref q4, .ref q5, .ref q6, .ref q7])), (q1, .inl (cy 0, 6, .inl fh)), (q2, .inl (cy 0, 30, .inl fd)), (q4, .inl (cy 0, 30, .inl fs))], [(qa, .inl (cy 0, N, .inl fa))], w] : List va_W)) (x := xW cy xtb a S1190) 3 rfl rfl hP
      have hDc := blk_D (bs := ([[(z0, .inr (12, [.ref b, .ref q1, .ref q2, .ref q3, .ref q4, .ref q5, .ref q6, .ref q7])), (q1, .inl (cy 0, 6, .inl fh)), (q2, .inl (cy 0, 30, .inl fd)), (q4, .inl (cy 0, 30, .inl fs))], [(qa, .inl (cy 0, N, .inl fa))], w, xW cy xtb a S1190] : List va_W)) (rs := ([[(z0, .inr (12, [.ref b, .ref q1, .ref q2, .ref q3, .ref q4, .ref q5, .ref q6, .ref q7])), (q1, .inl (cy 0, 6, .inl fh)), (q2, .inl (cy 0, 30, .inl fd)), (q4, .inl (cy 0, 30, .inl fs))], [(qa, .inl (cy 0, N, .inl fa))], w] : List va_W)) (x := xW cy xtb a S1190) 3 rfl rfl hD
      refine lw_vi hx hb hml hown hts (K_sub hK) hEx hI hPc hDc hS hA (⟨xw_mem 644 (by decide +kernel) rfl, xw_mem 30 (by decide +kernel) rfl, xw_mem 641 (by decide +kernel) rfl, by decide +kernel⟩ : xML RL 181 yX11_lay cX11_lay 5 (some .int) 3) (xw_mem 642 (by decide +kernel) rfl) (xw_mem 643 (by decide +kernel) rfl) (he := rfl) (by decide) rfl [.int (ki 1), .int (ki 6), .int (ki (-1))] (rest := []) (c_X11_lay hI hf1203 _) ⟨by omega, by omega⟩ ⟨by omega, by omega⟩ rfl hl.1 rfl (Nat.le_of_ble_eq_true (rfl)) dL_law_1203 (fun H locs hPn hS => ?_)
      have hDn := xD_st (S' := S1203) hDc
      have hP := blk_P2 (bs := ([[(z0, .inr (12, [.ref b, .ref q1, .ref q2, .ref q3, .ref q4, .ref q5, .ref q6, .ref q7])), (q1, .inl (cy 0, 6, .inl fh)), (q2, .inl (cy 0, 30, .inl fd)), (q4, .inl (cy 0, 30, .inl fs))], [(qa, .inl (cy 0, N, .inl fa))], w, xW cy xtb a S1203] : List va_W)) (rs := ([[(z0, .inr (12, [.ref b, .ref q1, .ref q2, .ref q3, .ref q4, .ref q5, .ref q6, .ref q7])), (q1, .inl (cy 0, 6, .inl fh)), (q2, .inl (cy 0, 30, .inl fd)), (q4, .inl (cy 0, 30, .inl fs))], [(qa, .inl (cy 0, N, .inl fa))], w] : List va_W)) (x := xW cy xtb a S1203) 3 rfl rfl hPn
      have hD := blk_D2 (bs := ([[(z0, .inr (12, [.ref b, .ref q1, .ref q2, .ref q3, .ref q4, .ref q5, .ref q6, .ref q7])), (q1, .inl (cy 0, 6, .inl fh)), (q2, .inl (cy 0, 30, .inl fd)), (q4, .inl (cy 0, 30, .inl fs))], [(qa, .inl (cy 0, N, .inl fa))], w, xW cy xtb a S1203] : List va_W)) (rs := ([[(z0, .inr (12, [.ref b, .ref q1, .ref q2, .ref q3, .ref q4, .ref q5, .ref q6, .ref q7])), (q1, .inl (cy 0, 6, .inl fh)), (q2, .inl (cy 0, 30, .inl fd)), (q4, .inl (cy 0, 30, .inl fs))], [(qa, .inl (cy 0, N, .inl fa))], w] : List va_W)) (x := xW cy xtb a S1203) 3 rfl rfl hDn
      refine lv_istore (lv' := [(16, .int (ki (vL gn 6 N rd η pe))), (0, .ref b), (1, .ref (a 0)), (2, .ref z0), (3, .ref y), (15, .ref qa)]) hx hb dL_law_1206 hl (by decide) rfl (fun ls hl => ?_)
      refine lv_iload hx hb dL_law_1208 (lv_at hl 0 rfl) ?_
      refine kv_if_lt_f (tgt := 1430) hx hb (by omega) (by omega) (by omega) dL_law_1210 (by decide) ?_
      refine lv_aload hx hb dL_law_1213 (lv_at hl 5 rfl) ?_
      refine va_alen (v := ki (N : Int)) hx hb hK hP 4 0 rfl rfl (nI_ki (by omega)) dL_law_1215 ?_
      refine x_newa (atype := .int) (ty := .int) hx hb (hts _ xar_i) rfl hK 0 rfl hP hD hS hA (N' := N) (a0 := (N, .inl (fun _ => (0 : Int32)))) rfl (by rw [kl_0, ki_lt (by omega) (by omega) (by omega) (by omega)]; omega) (by rw [kcl (by omega) (by omega)]; omega) (by show N * 4 ≤ 536870912; omega) (by omega) (by omega) dL_law_1216 (fun qo H hPn hDn hS _ _ => ?_)
      have hP := blk_P2 (bs := ([[(z0, .inr (12, [.ref b, .ref q1, .ref q2, .ref q3, .ref q4, .ref q5, .ref q6, .ref q7])), (q1, .inl (cy 0, 6, .inl fh)), (q2, .inl (cy 0, 30, .inl fd)), (q4, .inl (cy 0, 30, .inl fs))], [(qa, .inl (cy 0, N, .inl fa))], [(qo, .inl (cy 0, N, .inl (fun _ => (0 : Int32))))], w, xW cy xtb a S1203] : List va_W)) (rs := ([[(z0, .inr (12, [.ref b, .ref q1, .ref q2, .ref q3, .ref q4, .ref q5, .ref q6, .ref q7])), (q1, .inl (cy 0, 6, .inl fh)), (q2, .inl (cy 0, 30, .inl fd)), (q4, .inl (cy 0, 30, .inl fs))], [(qa, .inl (cy 0, N, .inl fa))], w, xW cy xtb a S1203] : List va_W)) (x := [(qo, .inl (cy 0, N, .inl (fun _ => (0 : Int32))))]) 2 rfl rfl hPn
      have hD := blk_D2 (bs := ([[(z0, .inr (12, [.ref b, .ref q1, .ref q2, .ref q3, .ref q4, .ref q5, .ref q6, .ref q7])), (q1, .inl (cy 0, 6, .inl fh)), (q2, .inl (cy 0, 30, .inl fd)), (q4, .inl (cy 0, 30, .inl fs))], [(qa, .inl (cy 0, N, .inl fa))], [(qo, .inl (cy 0, N, .inl (fun _ => (0 : Int32))))], w, xW cy xtb a S1203] : List va_W)) (rs := ([[(z0, .inr (12, [.ref b, .ref q1, .ref q2, .ref q3, .ref q4, .ref q5, .ref q6, .ref q7])), (q1, .inl (cy 0, 6, .inl fh)), (q2, .inl (cy 0, 30, .inl fd)), (q4, .inl (cy 0, 30, .inl fs))], [(qa, .inl (cy 0, N, .inl fa))], w, xW cy xtb a S1203] : List va_W)) (x := [(qo, .inl (cy 0, N, .inl (fun _ => (0 : Int32))))]) 2 rfl rfl hDn
      refine lv_astore (lv' := [(17, .ref qo), (16, .int (ki (vL gn 6 N rd η pe))), (0, .ref b), (1, .ref (a 0)), (2, .ref z0), (3, .ref y), (15, .ref qa)]) hx hb dL_law_1218 hl (by decide) rfl (fun ls hl => ?_)
      refine lv_iconst (v := ki 0) hx hb dL_law_1220 rfl ?_
      refine lv_istore (lv' := [(18, .int (ki 0)), (17, .ref qo), (16, .int (ki (vL gn 6 N rd η pe))), (0, .ref b), (1, .ref (a 0)), (2, .ref z0), (3, .ref y), (15, .ref qa)]) hx hb dL_law_1221 hl (by decide) rfl (fun ls hl => ?_)
      refine LY_2 hx hb hml hown hts hK hN hZ hX hbl hbA hNs hEx hA hI hR hL hF ⟨by omega, by omega⟩ hN4 hem h49 hfl hv0 (fun S2 fo hB hi hsx hfo H locs ls hl hP hD hS => ?_) N 0 (by omega) _ _ hB hi hsx (fun j hj => absurd hj (Nat.not_lt_zero j)) _ _ ls (lv_sub hl [3, 4, 5, 6, 7, 2, 1, 0] rfl) hP hD hS
      refine lv_iconst (v := ki 0) hx hb dL_law_1251 rfl ?_
      refine lv_istore (lv' := [(18, .int (ki 0)), (0, .ref b), (1, .ref (a 0)), (2, .ref z0), (3, .ref y), (15, .ref qa), (16, .int (ki (vL gn 6 N rd η pe))), (17, .ref qo)]) hx hb dL_law_1252 hl (by decide) rfl (fun ls hl => ?_)
      refine lv_iconst (v := ki 0) hx hb dL_law_1254 rfl ?_
      refine lv_istore (lv' := [(19, .int (ki 0)), (18, .int (ki 0)), (0, .ref b), (1, .ref (a 0)), (2, .ref z0), (3, .ref y), (15, .ref qa), (16, .int (ki (vL gn 6 N rd η pe))), (17, .ref qo)]) hx hb dL_law_1255 hl (by decide) rfl (fun ls hl => ?_)
      refine LY_3 hx hb hml hown hts hK hN hZ hX hbl hbA hNs hEx hA hI hR hL hF ⟨by omega, by omega⟩ hN4 hfa hfo hp hrd hrdb h49 hE hh (fun S3 g hB hi H locs ls hl hP hD hS => ?_) N 0 (by omega) _ _ (BX_8 hB) hi _ _ ls (lv_sub hl [2, 3, 4, 5, 6, 7, 8, 1, 0] rfl) hP hD hS
      refine lv_aload_n hx hb dL_law_1352 rfl (lv_at hl 1 rfl) ?_
      refine lv_bipush (v := ki 6) hx hb dL_law_1353 rfl ?_
      refine lv_iconst (v := ki 1) hx hb dL_law_1355 rfl ?_
      obtain ⟨⟨S1356, v1356⟩, hf1356, hq1356⟩ := t_stack8 (S := S3) hB (n := 6) (w := 1) (by omega) (by omega) (by omega)
      dsimp only at hq1356
      obtain ⟨hv9, hf9, hl9⟩ := hq1356
      subst hv9
      have hB := BX_q hB hf9 hl9
      have hi := iX_q hi hf9
      rw [st_1, ← vL_e] at hf1356
      have hPc := blk_P (bs := ([[(z0, .inr (12, [.ref b, .ref q1, .ref q2, .ref q3, .ref q4, .ref q5, .ref q6, .ref q7])), (q1, .inl (cy 0, 6, .inl fh)), (q2, .inl (cy 0, 30, .inl fd)), (q4, .inl (cy 0, 30, .inl fs))], [(qa, .inl (cy 0, N, .inl fa))], [(qo, .inl (cy 0, N, .inl fo))], w, xW cy xtb a S3] : List va_W)) (rs := ([[(z0, .inr (12, [.ref b, .ref q1, .ref q2, .ref q3, .ref q4, .ref q5, .ref q6, .ref q7])), (q1, .inl (cy 0, 6, .inl fh)), (q2, .inl (cy 0, 30, .inl fd)), (q4, .inl (cy 0, 30, .inl fs))], [(qa, .inl (cy 0, N, .inl fa))], [(qo, .inl (cy 0, N, .inl fo))], w] : List va_W)) (x := xW cy xtb a S3) 4 rfl rfl hP
      have hDc := blk_D (bs := ([[(z0, .inr (12, [.ref b, .ref q1, .ref q2, .ref q3, .ref q4, .ref q5, .ref q6, .ref q7])), (q1, .inl (cy 0, 6, .inl fh)), (q2, .inl (cy 0, 30, .inl fd)), (q4, .inl (cy 0, 30, .inl fs))], [(qa, .inl (cy 0, N, .inl fa))], [(qo, .inl (cy 0, N, .inl fo))], w, xW cy xtb a S3] : List va_W)) (rs := ([[(z0, .inr (12, [.ref b, .ref q1, .ref q2, .ref q3, .ref q4, .ref q5, .ref q6, .ref q7])), (q1, .inl (cy 0, 6, .inl fh)), (q2, .inl (cy 0, 30, .inl fd)), (q4, .inl (cy 0, 30, .inl fs))], [(qa, .inl (cy 0, N, .inl fa))], [(qo, .inl (cy 0, N, .inl fo))], w] : List va_W)) (x := xW cy xtb a S3) 4 rfl rfl hD
      refine lw_vi hx hb hml hown hts (K_sub hK) hEx hI hPc hDc hS hA (⟨xw_mem 477 (by decide +kernel) rfl, xw_mem 30 (by decide +kernel) rfl, xw_mem 474 (by decide +kernel) rfl, by decide +kernel⟩ : xML RL 84 yX11_stack cX11_stack 4 (some .int) 2) (xw_mem 475 (by decide +kernel) rfl) (xw_mem 476 (by decide +kernel) rfl) (he := rfl) (by decide) rfl [.int (ki 6), .int (ki 1)] (rest := []) (c_X11_stack hI hf1356 _) ⟨by omega, by omega⟩ ⟨by omega, by omega⟩ rfl hl.1 rfl (Nat.le_of_ble_eq_true (rfl)) dL_law_1356 (fun H locs hPn hS => ?_)
      have hDn := xD_st (S' := S1356) hDc
      have hP := blk_P2 (bs := ([[(z0, .inr (12, [.ref b, .ref q1, .ref q2, .ref q3, .ref q4, .ref q5, .ref q6, .ref q7])), (q1, .inl (cy 0, 6, .inl fh)), (q2, .inl (cy 0, 30, .inl fd)), (q4, .inl (cy 0, 30, .inl fs))], [(qa, .inl (cy 0, N, .inl fa))], [(qo, .inl (cy 0, N, .inl fo))], w, xW cy xtb a S1356] : List va_W)) (rs := ([[(z0, .inr (12, [.ref b, .ref q1, .ref q2, .ref q3, .ref q4, .ref q5, .ref q6, .ref q7])), (q1, .inl (cy 0, 6, .inl fh)), (q2, .inl (cy 0, 30, .inl fd)), (q4, .inl (cy 0, 30, .inl fs))], [(qa, .inl (cy 0, N, .inl fa))], [(qo, .inl (cy 0, N, .inl fo))], w] : List va_W)) (x := xW cy xtb a S1356) 4 rfl rfl hPn
      have hD := blk_D2 (bs := ([[(z0, .inr (12, [.ref b, .ref q1, .ref q2, .ref q3, .ref q4, .ref q5, .ref q6, .ref q7])), (q1, .inl (cy 0, 6, .inl fh)), (q2, .inl (cy 0, 30, .inl fd)), (q4, .inl (cy 0, 30, .inl fs))], [(qa, .inl (cy 0, N, .inl fa))], [(qo, .inl (cy 0, N, .inl fo))], w, xW cy xtb a S1356] : List va_W)) (rs := ([[(z0, .inr (12, [.ref b, .ref q1, .ref q2, .ref q3, .ref q4, .ref q5, .ref q6, .ref q7])), (q1, .inl (cy 0, 6, .inl fh)), (q2, .inl (cy 0, 30, .inl fd)), (q4, .inl (cy 0, 30, .inl fs))], [(qa, .inl (cy 0, N, .inl fa))], [(qo, .inl (cy 0, N, .inl fo))], w] : List va_W)) (x := xW cy xtb a S1356) 4 rfl rfl hDn
      refine lv_iload hx hb dL_law_1359 (lv_at hl 5 rfl) ?_
      refine kv_icmp_ne_f (tgt := 1371) hx hb rfl (by omega) (by omega) (by omega) (by omega) dL_law_1361 (by decide) ?_
      refine lv_aload_n hx hb dL_law_1364 rfl (lv_at hl 1 rfl) ?_
      obtain ⟨⟨S1365, v1365⟩, hf1365, hq1365⟩ := t_back8 (S := S1356) hB hi hwf (lyS_2 _ _) (lyS_10 _ _)
      dsimp only at hq1365
      obtain ⟨hv9, hB, hi⟩ := hq1365
      subst hv9
      rw [hE.2.2.2] at hf1365
      have hPc := blk_P (bs := ([[(z0, .inr (12, [.ref b, .ref q1, .ref q2, .ref q3, .ref q4, .ref q5, .ref q6, .ref q7])), (q1, .inl (cy 0, 6, .inl fh)), (q2, .inl (cy 0, 30, .inl fd)), (q4, .inl (cy 0, 30, .inl fs))], [(qa, .inl (cy 0, N, .inl fa))], [(qo, .inl (cy 0, N, .inl fo))], w, xW cy xtb a S1356] : List va_W)) (rs := ([[(z0, .inr (12, [.ref b, .ref q1, .ref q2, .ref q3, .ref q4, .ref q5, .ref q6, .ref q7])), (q1, .inl (cy 0, 6, .inl fh)), (q2, .inl (cy 0, 30, .inl fd)), (q4, .inl (cy 0, 30, .inl fs))], [(qa, .inl (cy 0, N, .inl fa))], [(qo, .inl (cy 0, N, .inl fo))], w] : List va_W)) (x := xW cy xtb a S1356) 4 rfl rfl hP
      have hDc := blk_D (bs := ([[(z0, .inr (12, [.ref b, .ref q1, .ref q2, .ref q3, .ref q4, .ref q5, .ref q6, .ref q7])), (q1, .inl (cy 0, 6, .inl fh)), (q2, .inl (cy 0, 30, .inl fd)), (q4, .inl (cy 0, 30, .inl fs))], [(qa, .inl (cy 0, N, .inl fa))], [(qo, .inl (cy 0, N, .inl fo))], w, xW cy xtb a S1356] : List va_W)) (rs := ([[(z0, .inr (12, [.ref b, .ref q1, .ref q2, .ref q3, .ref q4, .ref q5, .ref q6, .ref q7])), (q1, .inl (cy 0, 6, .inl fh)), (q2, .inl (cy 0, 30, .inl fd)), (q4, .inl (cy 0, 30, .inl fs))], [(qa, .inl (cy 0, N, .inl fa))], [(qo, .inl (cy 0, N, .inl fo))], w] : List va_W)) (x := xW cy xtb a S1356) 4 rfl rfl hD
      refine lw_vi hx hb hml hown hts (K_sub hK) hEx hI hPc hDc hS hA (⟨xw_mem 781 (by decide +kernel) rfl, xw_mem 30 (by decide +kernel) rfl, xw_mem 778 (by decide +kernel) rfl, by decide +kernel⟩ : xML RL 114 yX11_back cX11_back 1 (some .int) 0) (xw_mem 779 (by decide +kernel) rfl) (xw_mem 780 (by decide +kernel) rfl) (he := rfl) (by decide) rfl [] (rest := []) (c_X11_back hI hf1365 _) ⟨by omega, by omega⟩ ⟨by omega, by omega⟩ rfl hl.1 rfl (Nat.le_of_ble_eq_true (rfl)) dL_law_1365 (fun H locs hPn hS => ?_)
      have hDn := xD_st (S' := S1365) hDc
      have hP := blk_P2 (bs := ([[(z0, .inr (12, [.ref b, .ref q1, .ref q2, .ref q3, .ref q4, .ref q5, .ref q6, .ref q7])), (q1, .inl (cy 0, 6, .inl fh)), (q2, .inl (cy 0, 30, .inl fd)), (q4, .inl (cy 0, 30, .inl fs))], [(qa, .inl (cy 0, N, .inl fa))], [(qo, .inl (cy 0, N, .inl fo))], w, xW cy xtb a S1365] : List va_W)) (rs := ([[(z0, .inr (12, [.ref b, .ref q1, .ref q2, .ref q3, .ref q4, .ref q5, .ref q6, .ref q7])), (q1, .inl (cy 0, 6, .inl fh)), (q2, .inl (cy 0, 30, .inl fd)), (q4, .inl (cy 0, 30, .inl fs))], [(qa, .inl (cy 0, N, .inl fa))], [(qo, .inl (cy 0, N, .inl fo))], w] : List va_W)) (x := xW cy xtb a S1365) 4 rfl rfl hPn
      have hD := blk_D2 (bs := ([[(z0, .inr (12, [.ref b, .ref q1, .ref q2, .ref q3, .ref q4, .ref q5, .ref q6, .ref q7])), (q1, .inl (cy 0, 6, .inl fh)), (q2, .inl (cy 0, 30, .inl fd)), (q4, .inl (cy 0, 30, .inl fs))], [(qa, .inl (cy 0, N, .inl fa))], [(qo, .inl (cy 0, N, .inl fo))], w, xW cy xtb a S1365] : List va_W)) (rs := ([[(z0, .inr (12, [.ref b, .ref q1, .ref q2, .ref q3, .ref q4, .ref q5, .ref q6, .ref q7])), (q1, .inl (cy 0, 6, .inl fh)), (q2, .inl (cy 0, 30, .inl fd)), (q4, .inl (cy 0, 30, .inl fs))], [(qa, .inl (cy 0, N, .inl fa))], [(qo, .inl (cy 0, N, .inl fo))], w] : List va_W)) (x := xW cy xtb a S1365) 4 rfl rfl hDn
      refine kv_if_eq_t (tgt := 1373) hx hb (by omega) (by omega) (by omega) dL_law_1368 (by decide) ?_
      refine lv_iconst (v := ki 0) hx hb dL_law_1373 rfl ?_
      refine lv_istore (lv' := [(19, .int (ki 0)), (0, .ref b), (1, .ref (a 0)), (2, .ref z0), (3, .ref y), (15, .ref qa), (16, .int (ki (vL gn 6 N rd η pe))), (17, .ref qo)]) hx hb dL_law_1374 hl (by decide) rfl (fun ls hl => ?_)
      refine LY_4 hx hb hml hown hts hK hN hZ hX hbl hbA hNs hEx hA hI hR hL hF ⟨by omega, by omega⟩ hN4 hfa hrd hrdb h49 (fun S4 g hB hi H locs ls hl hP hD hS => ?_) N 0 (by omega) _ _ (BX_8 hB) hi _ _ ls (lv_sub hl [1, 2, 3, 4, 5, 6, 0] rfl) hP hD hS
      refine lv_aload_n hx hb dL_law_1409 rfl (lv_at hl 1 rfl) ?_
      refine lv_bipush (v := ki 6) hx hb dL_law_1410 rfl ?_
      refine lv_iconst (v := ki 1) hx hb dL_law_1412 rfl ?_
      obtain ⟨⟨S1413, v1413⟩, hf1413, hq1413⟩ := t_stack8 (S := S4) hB (n := 6) (w := 1) (by omega) (by omega) (by omega)
      dsimp only at hq1413
      have hvb2 := (hhS_b (wf_days (gn := gn) hB.1 6)).2
      rw [days_u8, hh_u8] at hvb2
      have hnn := vL_nn (gn := gn) (N := 6) (p := pe) hB.1 hv0
      rw [vL_id] at hnn hmin
      obtain ⟨hv9, hf9, hl9⟩ := hq1413
      subst hv9
      have hB := BX_q hB hf9 hl9
      have hi := iX_q hi hf9
      rw [st_1] at hf1413
      have hPc := blk_P (bs := ([[(z0, .inr (12, [.ref b, .ref q1, .ref q2, .ref q3, .ref q4, .ref q5, .ref q6, .ref q7])), (q1, .inl (cy 0, 6, .inl fh)), (q2, .inl (cy 0, 30, .inl fd)), (q4, .inl (cy 0, 30, .inl fs))], [(qa, .inl (cy 0, N, .inl fa))], [(qo, .inl (cy 0, N, .inl fo))], w, xW cy xtb a S4] : List va_W)) (rs := ([[(z0, .inr (12, [.ref b, .ref q1, .ref q2, .ref q3, .ref q4, .ref q5, .ref q6, .ref q7])), (q1, .inl (cy 0, 6, .inl fh)), (q2, .inl (cy 0, 30, .inl fd)), (q4, .inl (cy 0, 30, .inl fs))], [(qa, .inl (cy 0, N, .inl fa))], [(qo, .inl (cy 0, N, .inl fo))], w] : List va_W)) (x := xW cy xtb a S4) 4 rfl rfl hP
      have hDc := blk_D (bs := ([[(z0, .inr (12, [.ref b, .ref q1, .ref q2, .ref q3, .ref q4, .ref q5, .ref q6, .ref q7])), (q1, .inl (cy 0, 6, .inl fh)), (q2, .inl (cy 0, 30, .inl fd)), (q4, .inl (cy 0, 30, .inl fs))], [(qa, .inl (cy 0, N, .inl fa))], [(qo, .inl (cy 0, N, .inl fo))], w, xW cy xtb a S4] : List va_W)) (rs := ([[(z0, .inr (12, [.ref b, .ref q1, .ref q2, .ref q3, .ref q4, .ref q5, .ref q6, .ref q7])), (q1, .inl (cy 0, 6, .inl fh)), (q2, .inl (cy 0, 30, .inl fd)), (q4, .inl (cy 0, 30, .inl fs))], [(qa, .inl (cy 0, N, .inl fa))], [(qo, .inl (cy 0, N, .inl fo))], w] : List va_W)) (x := xW cy xtb a S4) 4 rfl rfl hD
      refine lw_vi hx hb hml hown hts (K_sub hK) hEx hI hPc hDc hS hA (⟨xw_mem 477 (by decide +kernel) rfl, xw_mem 30 (by decide +kernel) rfl, xw_mem 474 (by decide +kernel) rfl, by decide +kernel⟩ : xML RL 84 yX11_stack cX11_stack 4 (some .int) 2) (xw_mem 475 (by decide +kernel) rfl) (xw_mem 476 (by decide +kernel) rfl) (he := rfl) (by decide) rfl [.int (ki 6), .int (ki 1)] (rest := []) (c_X11_stack hI hf1413 _) ⟨by omega, by omega⟩ ⟨by omega, by omega⟩ rfl hl.1 rfl (Nat.le_of_ble_eq_true (rfl)) dL_law_1413 (fun H locs hPn hS => ?_)
      have hDn := xD_st (S' := S1413) hDc
      have hP := blk_P2 (bs := ([[(z0, .inr (12, [.ref b, .ref q1, .ref q2, .ref q3, .ref q4, .ref q5, .ref q6, .ref q7])), (q1, .inl (cy 0, 6, .inl fh)), (q2, .inl (cy 0, 30, .inl fd)), (q4, .inl (cy 0, 30, .inl fs))], [(qa, .inl (cy 0, N, .inl fa))], [(qo, .inl (cy 0, N, .inl fo))], w, xW cy xtb a S1413] : List va_W)) (rs := ([[(z0, .inr (12, [.ref b, .ref q1, .ref q2, .ref q3, .ref q4, .ref q5, .ref q6, .ref q7])), (q1, .inl (cy 0, 6, .inl fh)), (q2, .inl (cy 0, 30, .inl fd)), (q4, .inl (cy 0, 30, .inl fs))], [(qa, .inl (cy 0, N, .inl fa))], [(qo, .inl (cy 0, N, .inl fo))], w] : List va_W)) (x := xW cy xtb a S1413) 4 rfl rfl hPn
      have hD := blk_D2 (bs := ([[(z0, .inr (12, [.ref b, .ref q1, .ref q2, .ref q3, .ref q4, .ref q5, .ref q6, .ref q7])), (q1, .inl (cy 0, 6, .inl fh)), (q2, .inl (cy 0, 30, .inl fd)), (q4, .inl (cy 0, 30, .inl fs))], [(qa, .inl (cy 0, N, .inl fa))], [(qo, .inl (cy 0, N, .inl fo))], w, xW cy xtb a S1413] : List va_W)) (rs := ([[(z0, .inr (12, [.ref b, .ref q1, .ref q2, .ref q3, .ref q4, .ref q5, .ref q6, .ref q7])), (q1, .inl (cy 0, 6, .inl fh)), (q2, .inl (cy 0, 30, .inl fd)), (q4, .inl (cy 0, 30, .inl fs))], [(qa, .inl (cy 0, N, .inl fa))], [(qo, .inl (cy 0, N, .inl fo))], w] : List va_W)) (x := xW cy xtb a S1413) 4 rfl rfl hDn
      refine lv_iload hx hb dL_law_1416 (lv_at hl 5 rfl) ?_
      refine kv_icmp_lt_f (tgt := 1428) hx hb (by omega) (by omega) (by omega) (by omega) (by omega) dL_law_1418 (by decide) ?_
      refine lv_aload_n hx hb dL_law_1421 rfl (lv_at hl 1 rfl) ?_
      obtain ⟨⟨S1422, v1422⟩, hf1422, hq1422⟩ := t_back8 (S := S1413) hB hi hwf (lyS_2 _ _) (lyS_10 _ _)
      dsimp only at hq1422
      obtain ⟨hv9, hB, hi⟩ := hq1422
      subst hv9
      rw [hE.2.2.2] at hf1422
      have hPc := blk_P (bs := ([[(z0, .inr (12, [.ref b, .ref q1, .ref q2, .ref q3, .ref q4, .ref q5, .ref q6, .ref q7])), (q1, .inl (cy 0, 6, .inl fh)), (q2, .inl (cy 0, 30, .inl fd)), (q4, .inl (cy 0, 30, .inl fs))], [(qa, .inl (cy 0, N, .inl fa))], [(qo, .inl (cy 0, N, .inl fo))], w, xW cy xtb a S1413] : List va_W)) (rs := ([[(z0, .inr (12, [.ref b, .ref q1, .ref q2, .ref q3, .ref q4, .ref q5, .ref q6, .ref q7])), (q1, .inl (cy 0, 6, .inl fh)), (q2, .inl (cy 0, 30, .inl fd)), (q4, .inl (cy 0, 30, .inl fs))], [(qa, .inl (cy 0, N, .inl fa))], [(qo, .inl (cy 0, N, .inl fo))], w] : List va_W)) (x := xW cy xtb a S1413) 4 rfl rfl hP
      have hDc := blk_D (bs := ([[(z0, .inr (12, [.ref b, .ref q1, .ref q2, .ref q3, .ref q4, .ref q5, .ref q6, .ref q7])), (q1, .inl (cy 0, 6, .inl fh)), (q2, .inl (cy 0, 30, .inl fd)), (q4, .inl (cy 0, 30, .inl fs))], [(qa, .inl (cy 0, N, .inl fa))], [(qo, .inl (cy 0, N, .inl fo))], w, xW cy xtb a S1413] : List va_W)) (rs := ([[(z0, .inr (12, [.ref b, .ref q1, .ref q2, .ref q3, .ref q4, .ref q5, .ref q6, .ref q7])), (q1, .inl (cy 0, 6, .inl fh)), (q2, .inl (cy 0, 30, .inl fd)), (q4, .inl (cy 0, 30, .inl fs))], [(qa, .inl (cy 0, N, .inl fa))], [(qo, .inl (cy 0, N, .inl fo))], w] : List va_W)) (x := xW cy xtb a S1413) 4 rfl rfl hD
      refine lw_vi hx hb hml hown hts (K_sub hK) hEx hI hPc hDc hS hA (⟨xw_mem 781 (by decide +kernel) rfl, xw_mem 30 (by decide +kernel) rfl, xw_mem 778 (by decide +kernel) rfl, by decide +kernel⟩ : xML RL 114 yX11_back cX11_back 1 (some .int) 0) (xw_mem 779 (by decide +kernel) rfl) (xw_mem 780 (by decide +kernel) rfl) (he := rfl) (by decide) rfl [] (rest := []) (c_X11_back hI hf1422 _) ⟨by omega, by omega⟩ ⟨by omega, by omega⟩ rfl hl.1 rfl (Nat.le_of_ble_eq_true (rfl)) dL_law_1422 (fun H locs hPn hS => ?_)
      have hDn := xD_st (S' := S1422) hDc
      have hP := blk_P2 (bs := ([[(z0, .inr (12, [.ref b, .ref q1, .ref q2, .ref q3, .ref q4, .ref q5, .ref q6, .ref q7])), (q1, .inl (cy 0, 6, .inl fh)), (q2, .inl (cy 0, 30, .inl fd)), (q4, .inl (cy 0, 30, .inl fs))], [(qa, .inl (cy 0, N, .inl fa))], [(qo, .inl (cy 0, N, .inl fo))], w, xW cy xtb a S1422] : List va_W)) (rs := ([[(z0, .inr (12, [.ref b, .ref q1, .ref q2, .ref q3, .ref q4, .ref q5, .ref q6, .ref q7])), (q1, .inl (cy 0, 6, .inl fh)), (q2, .inl (cy 0, 30, .inl fd)), (q4, .inl (cy 0, 30, .inl fs))], [(qa, .inl (cy 0, N, .inl fa))], [(qo, .inl (cy 0, N, .inl fo))], w] : List va_W)) (x := xW cy xtb a S1422) 4 rfl rfl hPn
      have hD := blk_D2 (bs := ([[(z0, .inr (12, [.ref b, .ref q1, .ref q2, .ref q3, .ref q4, .ref q5, .ref q6, .ref q7])), (q1, .inl (cy 0, 6, .inl fh)), (q2, .inl (cy 0, 30, .inl fd)), (q4, .inl (cy 0, 30, .inl fs))], [(qa, .inl (cy 0, N, .inl fa))], [(qo, .inl (cy 0, N, .inl fo))], w, xW cy xtb a S1422] : List va_W)) (rs := ([[(z0, .inr (12, [.ref b, .ref q1, .ref q2, .ref q3, .ref q4, .ref q5, .ref q6, .ref q7])), (q1, .inl (cy 0, 6, .inl fh)), (q2, .inl (cy 0, 30, .inl fd)), (q4, .inl (cy 0, 30, .inl fs))], [(qa, .inl (cy 0, N, .inl fa))], [(qo, .inl (cy 0, N, .inl fo))], w] : List va_W)) (x := xW cy xtb a S1422) 4 rfl rfl hDn
      refine kv_if_eq_t (tgt := 1430) hx hb (by omega) (by omega) (by omega) dL_law_1425 (by decide) ?_
      have hP := drp_P (bs := ([[(z0, .inr (12, [.ref b, .ref q1, .ref q2, .ref q3, .ref q4, .ref q5, .ref q6, .ref q7])), (q1, .inl (cy 0, 6, .inl fh)), (q2, .inl (cy 0, 30, .inl fd)), (q4, .inl (cy 0, 30, .inl fs))], [(qa, .inl (cy 0, N, .inl fa))], [(qo, .inl (cy 0, N, .inl fo))], w, xW cy xtb a S1422] : List va_W)) (rs := ([[(z0, .inr (12, [.ref b, .ref q1, .ref q2, .ref q3, .ref q4, .ref q5, .ref q6, .ref q7])), (q1, .inl (cy 0, 6, .inl fh)), (q2, .inl (cy 0, 30, .inl fd)), (q4, .inl (cy 0, 30, .inl fs))], [(qa, .inl (cy 0, N, .inl fa))], w, xW cy xtb a S1422] : List va_W)) (x := [(qo, .inl (cy 0, N, .inl fo))]) 2 rfl rfl hP
      have hD := drp_D (bs := ([[(z0, .inr (12, [.ref b, .ref q1, .ref q2, .ref q3, .ref q4, .ref q5, .ref q6, .ref q7])), (q1, .inl (cy 0, 6, .inl fh)), (q2, .inl (cy 0, 30, .inl fd)), (q4, .inl (cy 0, 30, .inl fs))], [(qa, .inl (cy 0, N, .inl fa))], [(qo, .inl (cy 0, N, .inl fo))], w, xW cy xtb a S1422] : List va_W)) (rs := ([[(z0, .inr (12, [.ref b, .ref q1, .ref q2, .ref q3, .ref q4, .ref q5, .ref q6, .ref q7])), (q1, .inl (cy 0, 6, .inl fh)), (q2, .inl (cy 0, 30, .inl fd)), (q4, .inl (cy 0, 30, .inl fs))], [(qa, .inl (cy 0, N, .inl fa))], w, xW cy xtb a S1422] : List va_W)) (x := [(qo, .inl (cy 0, N, .inl fo))]) 2 rfl rfl hD
      have hP := drp_P (bs := ([[(z0, .inr (12, [.ref b, .ref q1, .ref q2, .ref q3, .ref q4, .ref q5, .ref q6, .ref q7])), (q1, .inl (cy 0, 6, .inl fh)), (q2, .inl (cy 0, 30, .inl fd)), (q4, .inl (cy 0, 30, .inl fs))], [(qa, .inl (cy 0, N, .inl fa))], w, xW cy xtb a S1422] : List va_W)) (rs := ([[(z0, .inr (12, [.ref b, .ref q1, .ref q2, .ref q3, .ref q4, .ref q5, .ref q6, .ref q7])), (q1, .inl (cy 0, 6, .inl fh)), (q2, .inl (cy 0, 30, .inl fd)), (q4, .inl (cy 0, 30, .inl fs))], w, xW cy xtb a S1422] : List va_W)) (x := [(qa, .inl (cy 0, N, .inl fa))]) 1 rfl rfl hP
      have hD := drp_D (bs := ([[(z0, .inr (12, [.ref b, .ref q1, .ref q2, .ref q3, .ref q4, .ref q5, .ref q6, .ref q7])), (q1, .inl (cy 0, 6, .inl fh)), (q2, .inl (cy 0, 30, .inl fd)), (q4, .inl (cy 0, 30, .inl fs))], [(qa, .inl (cy 0, N, .inl fa))], w, xW cy xtb a S1422] : List va_W)) (rs := ([[(z0, .inr (12, [.ref b, .ref q1, .ref q2, .ref q3, .ref q4, .ref q5, .ref q6, .ref q7])), (q1, .inl (cy 0, 6, .inl fh)), (q2, .inl (cy 0, 30, .inl fd)), (q4, .inl (cy 0, 30, .inl fs))], w, xW cy xtb a S1422] : List va_W)) (x := [(qa, .inl (cy 0, N, .inl fa))]) 1 rfl rfl hD
      exact kk S1422 _ _ (by omega) (by omega) hB hi H _ ls (lv_sub hl [0, 1, 2, 3] rfl) hP hD hS
  · obtain ⟨⟨S1203, v1203⟩, hf1203, hq1203⟩ := tc_lay (S := S1190) (s := 1) (N := 6) (m := N) (k := (-1)) hB (by omega) hsx (by omega) (by omega) (by omega) hem (A := (-2)) (Or.inr ⟨h49, rfl⟩)
    dsimp only at hq1203
    obtain ⟨hv9, hf9, hl9⟩ := hq1203
    subst hv9
    have hB := BX_q hB hf9 hl9
    have hi := iX_q hi hf9
    have hsx := sX_q hsx hf9
    have hPc := blk_P (bs := ([[(z0, .inr (12, [.ref b, .ref q1, .ref q2, .ref q3, .ref q4, .ref q5, .ref q6, .ref q7])), (q1, .inl (cy 0, 6, .inl fh)), (q2, .inl (cy 0, 30, .inl fd)), (q4, .inl (cy 0, 30, .inl fs))], [(qa, .inl (cy 0, N, .inl fa))], w, xW cy xtb a S1190] : List va_W)) (rs := ([[(z0, .inr (12, [.ref b, .ref q1, .ref q2, .ref q3, .ref q4, .ref q5, .ref q6, .ref q7])), (q1, .inl (cy 0, 6, .inl fh)), (q2, .inl (cy 0, 30, .inl fd)), (q4, .inl (cy 0, 30, .inl fs))], [(qa, .inl (cy 0, N, .inl fa))], w] : List va_W)) (x := xW cy xtb a S1190) 3 rfl rfl hP
    have hDc := blk_D (bs := ([[(z0, .inr (12, [.ref b, .ref q1, .ref q2, .ref q3, .ref q4, .ref q5, .ref q6, .ref q7])), (q1, .inl (cy 0, 6, .inl fh)), (q2, .inl (cy 0, 30, .inl fd)), (q4, .inl (cy 0, 30, .inl fs))], [(qa, .inl (cy 0, N, .inl fa))], w, xW cy xtb a S1190] : List va_W)) (rs := ([[(z0, .inr (12, [.ref b, .ref q1, .ref q2, .ref q3, .ref q4, .ref q5, .ref q6, .ref q7])), (q1, .inl (cy 0, 6, .inl fh)), (q2, .inl (cy 0, 30, .inl fd)), (q4, .inl (cy 0, 30, .inl fs))], [(qa, .inl (cy 0, N, .inl fa))], w] : List va_W)) (x := xW cy xtb a S1190) 3 rfl rfl hD
    refine lw_vi hx hb hml hown hts (K_sub hK) hEx hI hPc hDc hS hA (⟨xw_mem 644 (by decide +kernel) rfl, xw_mem 30 (by decide +kernel) rfl, xw_mem 641 (by decide +kernel) rfl, by decide +kernel⟩ : xML RL 181 yX11_lay cX11_lay 5 (some .int) 3) (xw_mem 642 (by decide +kernel) rfl) (xw_mem 643 (by decide +kernel) rfl) (he := rfl) (by decide) rfl [.int (ki 1), .int (ki 6), .int (ki (-1))] (rest := []) (c_X11_lay hI hf1203 _) ⟨by omega, by omega⟩ ⟨by omega, by omega⟩ rfl hl.1 rfl (Nat.le_of_ble_eq_true (rfl)) dL_law_1203 (fun H locs hPn hS => ?_)
    have hDn := xD_st (S' := S1203) hDc
    have hP := blk_P2 (bs := ([[(z0, .inr (12, [.ref b, .ref q1, .ref q2, .ref q3, .ref q4, .ref q5, .ref q6, .ref q7])), (q1, .inl (cy 0, 6, .inl fh)), (q2, .inl (cy 0, 30, .inl fd)), (q4, .inl (cy 0, 30, .inl fs))], [(qa, .inl (cy 0, N, .inl fa))], w, xW cy xtb a S1203] : List va_W)) (rs := ([[(z0, .inr (12, [.ref b, .ref q1, .ref q2, .ref q3, .ref q4, .ref q5, .ref q6, .ref q7])), (q1, .inl (cy 0, 6, .inl fh)), (q2, .inl (cy 0, 30, .inl fd)), (q4, .inl (cy 0, 30, .inl fs))], [(qa, .inl (cy 0, N, .inl fa))], w] : List va_W)) (x := xW cy xtb a S1203) 3 rfl rfl hPn
    have hD := blk_D2 (bs := ([[(z0, .inr (12, [.ref b, .ref q1, .ref q2, .ref q3, .ref q4, .ref q5, .ref q6, .ref q7])), (q1, .inl (cy 0, 6, .inl fh)), (q2, .inl (cy 0, 30, .inl fd)), (q4, .inl (cy 0, 30, .inl fs))], [(qa, .inl (cy 0, N, .inl fa))], w, xW cy xtb a S1203] : List va_W)) (rs := ([[(z0, .inr (12, [.ref b, .ref q1, .ref q2, .ref q3, .ref q4, .ref q5, .ref q6, .ref q7])), (q1, .inl (cy 0, 6, .inl fh)), (q2, .inl (cy 0, 30, .inl fd)), (q4, .inl (cy 0, 30, .inl fs))], [(qa, .inl (cy 0, N, .inl fa))], w] : List va_W)) (x := xW cy xtb a S1203) 3 rfl rfl hDn
    refine lv_istore (lv' := [(16, .int (ki (-2))), (0, .ref b), (1, .ref (a 0)), (2, .ref z0), (3, .ref y), (15, .ref qa)]) hx hb dL_law_1206 hl (by decide) rfl (fun ls hl => ?_)
    refine lv_iload hx hb dL_law_1208 (lv_at hl 0 rfl) ?_
    refine kv_if_lt_t (tgt := 1430) hx hb (by omega) (by omega) (by omega) dL_law_1210 (by decide) ?_
    have hP := drp_P (bs := ([[(z0, .inr (12, [.ref b, .ref q1, .ref q2, .ref q3, .ref q4, .ref q5, .ref q6, .ref q7])), (q1, .inl (cy 0, 6, .inl fh)), (q2, .inl (cy 0, 30, .inl fd)), (q4, .inl (cy 0, 30, .inl fs))], [(qa, .inl (cy 0, N, .inl fa))], w, xW cy xtb a S1203] : List va_W)) (rs := ([[(z0, .inr (12, [.ref b, .ref q1, .ref q2, .ref q3, .ref q4, .ref q5, .ref q6, .ref q7])), (q1, .inl (cy 0, 6, .inl fh)), (q2, .inl (cy 0, 30, .inl fd)), (q4, .inl (cy 0, 30, .inl fs))], w, xW cy xtb a S1203] : List va_W)) (x := [(qa, .inl (cy 0, N, .inl fa))]) 1 rfl rfl hP
    have hD := drp_D (bs := ([[(z0, .inr (12, [.ref b, .ref q1, .ref q2, .ref q3, .ref q4, .ref q5, .ref q6, .ref q7])), (q1, .inl (cy 0, 6, .inl fh)), (q2, .inl (cy 0, 30, .inl fd)), (q4, .inl (cy 0, 30, .inl fs))], [(qa, .inl (cy 0, N, .inl fa))], w, xW cy xtb a S1203] : List va_W)) (rs := ([[(z0, .inr (12, [.ref b, .ref q1, .ref q2, .ref q3, .ref q4, .ref q5, .ref q6, .ref q7])), (q1, .inl (cy 0, 6, .inl fh)), (q2, .inl (cy 0, 30, .inl fd)), (q4, .inl (cy 0, 30, .inl fs))], w, xW cy xtb a S1203] : List va_W)) (x := [(qa, .inl (cy 0, N, .inl fa))]) 1 rfl rfl hD
    exact kk S1203 _ _ (by omega) (by omega) hB hi H _ ls (lv_sub hl [1, 2, 3, 4] rfl) hP hD hS
end LAW
