/-! part ch: the law asks turn (made by wip/p45/gen_ch.py) -/
section LAW
variable {l : Launch} {D : va_G} {cy : Nat → ClassId} {mi zE zc : Nat} {ad z a : Nat → Nat} {b L : Nat} {xs : Nat → Int32}
variable {p : Program} {e : Env} {R : Room} {s : State} {m : MethodId} {args : Array Value} {below : List Frame} {meth : Method} {c : Code} {Q : State → Prop} {A : Nat → Prop}
variable {z0 q1 q2 q3 q4 q5 q6 q7 y : Nat} {fh fd fs : Nat → Int32} {w : va_W} {gn : (Int → Int) → Int} {η : Hy} {S : xSt} {k n : Nat}
theorem lw_si {H : Heap} {locs : List Loc} {cc : ByteArray} {pc : Nat} {ls : Array Slot} {rest : List Value} {own : String} {nL : Nat} (hx : p.tables.exec = Jvm.exec) (hb : c.code = cc) (hml : c.maxLocals = nL) (hown : s.vm.findClass own = some m.cls) (hts : ∀ w ∈ xTB, w.before args s = true) (hK : va_K D vwCl (xty cy) s) (hEx : xEx z A s s.heap) {wr : va_W} {tb : xTb} {S : xSt} (hI : xI tb a) (hP : va_P D vwCl (wr ++ xW cy tb a S) H) (hD : va_D A (wr ++ xW cy tb a S)) (hS : va_S A s.heap H locs) (hA : ∀ q, s.heap.size ≤ q → A q)
    {index n mxL fr lc cells slots : Nat} {y : MethodName} {bytes : ByteArray} (hL : xML own index y bytes mxL (some .int) n) (hsta : Cond.static y ∈ xTB) (As : List Value) {st : List Value} {S' : xSt} {v : Int32}
    (hMet : Met l y (Cond.code y bytes mxL (some .int) :: xTB) ({ frames := fr, cells := 0, slots := 0, locals := lc } : Room) (va_Pc As (xPre D cy tb a z S H.size)) (xQi D cy tb a S' v H.size) 0 0 (xA tb a H.size)) (hR : fr + 1 ≤ R.frames ∧ 8 + (mxL + 11) + lc ≤ R.locals) (hcs : cells ≤ R.cells ∧ slots ≤ R.slots) (hn : As.length = n) (hls : ls.size = nL) (hst : st = As.reverse ++ rest) (hrm : (rest.map fun v => v.category).sum ≤ 8) (hd : decode cc pc = .ok (.invokestatic index, 3))
    (kk : ∀ (H1 : Heap) (locs1 : List Loc), va_P D vwCl (wr ++ xW cy tb a S') H1 → va_S A s.heap H1 locs1 → W p l e R s m args below meth c H1 locs1 cells slots Q (F0 m (pc + 3) ls (.int v :: rest))) : W p l e R s m args below meth c H locs cells slots Q (F0 m pc ls st) := by
  obtain ⟨l1, l2, l3, l4⟩ := hL
  have hF0 := x_free hD hS hA
  have hF : ∀ q, xA tb a H.size q → A q := fun q h => hF0 q (xA_iff.mpr h)
  have hpre : ∀ U : State, U.heap = H → s.WarmedH U.vm → xPre D cy tb a z S H.size U := fun U hU hW => ⟨by rw [hU], by rw [hU]; exact xP_last hP, va_K.moved hW.alike hK, hEx.to (H1 := U.heap) hW (fun q h1 h2 => by rw [hU]; exact hS.2.1 q h1 h2) hF⟩
  have hcb : CallB R s args own index y bytes mxL (some .int) (Cond.code y bytes mxL (some .int) :: xTB) ({ frames := fr, cells := 0, slots := 0, locals := lc } : Room) 0 0 n := callB_of n hts (xgood l1) rfl rfl rfl (hts _ l2) (hts _ l3) l4 hR
  exact va_calli (va_runS (As := As) (rest := rest) ⟨hx, hb, hml, hown, hts⟩ hMet ⟨hcb, hts _ hsta⟩ ⟨xPre_blind, fun U hU hW => ⟨rfl, hpre U hU hW⟩⟩ rfl hn hls hst (lv_room hrm) hd hcs) hS (fun q _ h => hF q h) hF (fun r u t1 H1 locs1 ht _ hw2 hB _ hk1 hS1 => by
    subst hw2; subst ht
    exact kk _ _ (x_join hP hD (fun q h1 h2 => hk1 q h1 (fun h => h2 (xA_iff.mpr h))) hF0 hB ((xD_of (sz := H.size) hI).weaken (fun _ _ _ h => xA_iff.mpr h))).1 hS1)
theorem pc_z : ∀ s : Nat, s < 64 → pcS (s : Int) = 0 → s = 0 := by decide +kernel
theorem tuV_e {d : Nat} {s9 : Int} : tuV gn η d s9 = hhS (daysN gn d (trF s9 6 η)) := rfl
theorem trF_2 (s9 : Int) : ∀ i, trF s9 i η 2 = η 2
  | 0 => rfl
  | i + 1 => by
    unfold trF
    split
    · exact trF_2 s9 i
    · exact trF_2 s9 i
theorem trF_10 (s9 : Int) : ∀ i, trF s9 i η 0 10 = η 0 10
  | 0 => rfl
  | i + 1 => by
    unfold trF
    split
    · exact trF_10 s9 i
    · exact trF_10 s9 i
theorem trF_0 : ∀ i, trF 0 i η = η
  | 0 => rfl
  | i + 1 => by
    unfold trF
    rw [if_neg (by unfold btS; rw [Int.zero_ediv]; decide)]
    exact trF_0 i
theorem tu_0 {d : Nat} {k9 : Int} : ((tuR gn η d k9).1 = -2 ∧ (tuR gn η d k9).2 = -2 ∧ ∀ j : Int, 0 ≤ j → j < 64 → pcS j = k9 → tuV gn η d j < 0) ∨ (0 ≤ (tuR gn η d k9).1 ∧ (tuR gn η d k9).1 < 64 ∧ pcS (tuR gn η d k9).1 = k9 ∧ tuV gn η d (tuR gn η d k9).1 = (tuR gn η d k9).2 ∧ 0 ≤ (tuR gn η d k9).2) := ck_0 64
theorem tuV_nc {d : Nat} {s9 : Int} (h : ncS η) : tuV gn η d s9 = -2 := by
  rw [tuV_e]
  exact hh_nc (fun c c0 c1 => by rw [days_1, trF_1]; exact h c c0 c1)
theorem tuV_nn {d : Nat} {s9 : Int} (hw : wf η) (h : ¬ ncS η) : 0 ≤ tuV gn η d s9 := by
  rw [tuV_e]
  exact (hh_nn (wf_days (wf_trF hw s9 6) d) (fun q => h (fun c c0 c1 => by have x := q c c0 c1; rw [days_1, trF_1] at x; exact x))).1
theorem tuV_99 {d : Nat} {s9 : Int} (hw : wf η) : tuV gn η d s9 ≤ 99 := by
  rw [tuV_e]
  exact (hhS_b (wf_days (wf_trF hw s9 6) d)).2
/-- what turn says -/
theorem tu_1 {d : Nat} {k9 : Nat} (hk : k9 ≤ 3) (hw : wf η) : ∃ m9 s9 : Int, (tuR gn η d k9).2 = m9 ∧ (tuR gn η d k9).1 = s9 ∧ ((ncS η ∧ m9 = -2 ∧ s9 = -2) ∨ (¬ ncS η ∧ 0 ≤ m9 ∧ m9 ≤ 99 ∧ 0 ≤ s9 ∧ s9 < 64 ∧ pcS s9 = k9 ∧ tuV gn η d s9 = m9)) := by
  refine ⟨_, _, rfl, rfl, ?_⟩
  rcases tu_0 (gn := gn) (η := η) (d := d) (k9 := k9) with ⟨h1, h2, h3⟩ | ⟨h1, h2, h3, h4, h5⟩
  · by_cases q : ncS η
    · exact Or.inl ⟨q, h2, h1⟩
    · exfalso
      have hq : k9 = 0 ∨ k9 = 1 ∨ k9 = 2 ∨ k9 = 3 := by omega
      have hx : ∃ j : Int, 0 ≤ j ∧ j < 64 ∧ pcS j = k9 := by
        rcases hq with rfl | rfl | rfl | rfl
        · exact ⟨0, by decide, by decide, by decide⟩
        · exact ⟨1, by decide, by decide, by decide⟩
        · exact ⟨3, by decide, by decide, by decide⟩
        · exact ⟨7, by decide, by decide, by decide⟩
      obtain ⟨j, j0, j1, j2⟩ := hx
      have := h3 j j0 j1 j2
      have := tuV_nn (gn := gn) (d := d) (s9 := j) hw q
      omega
  · refine Or.inr ⟨fun q => ?_, h5, by rw [← h4]; exact tuV_99 hw, h1, h2, h3, h4⟩
    have := tuV_nc (gn := gn) (d := d) (s9 := (tuR gn η d k9).1) q
    omega
variable {s9 m9 : Int} {dd kk9 : Nat}
set_option maxHeartbeats 2000000 in
set_option maxRecDepth 20000 in
theorem TU_1 (hx : p.tables.exec = Jvm.exec) (hb : c.code = cL_law) (hml : c.maxLocals = 21) (hown : s.vm.findClass RL = some m.cls) (hts : ∀ w ∈ xTB, w.before args s = true) (hK : va_K D vwCl (xtyL cy) s) (hN : jN mi s) (hZ : jZ zE zc ad A s s.heap) (hX : va_X b L xs s s.heap) (hbl : b < s.heap.size) (hbA : ¬ A b) (hNs : nS s) (hEx : xEx z A s s.heap) (hA : ∀ q, s.heap.size ≤ q → A q) (hI : xI xtb a) (hR : 100 ≤ R.frames ∧ 4000 ≤ R.locals ∧ 600000 ≤ R.cells ∧ 7302250 ≤ R.slots) (hL : L ≤ 1000) (hF : nF s) (hkn : k ≤ R.cells ∧ n ≤ R.slots) (hs9 : 0 ≤ s9 ∧ s9 < 64) (hE : bE L xs η) (hh : ∀ j : Nat, j < 6 → fh j = ki (hgS L xs j)) (kk : ∀ (S1 : xSt) (g : Int → Int) (hB : BX (uh (trF s9 6 η) 8 g) gn S1) (hi : iX η S1) (H : Heap) (locs : List Loc) (ls : Array Slot), lv_has ls 21 [(0, .ref b), (1, .ref (a 0)), (2, .ref z0), (3, .ref y), (11, .int (ki (dd : Int))), (13, .int (ki (kk9 : Int))), (14, .int (ki m9)), (15, .int (ki s9))] → va_P D vwCl (List.flatten [[(z0, .inr (12, [.ref b, .ref q1, .ref q2, .ref q3, .ref q4, .ref q5, .ref q6, .ref q7])), (q1, .inl (cy 0, 6, .inl fh)), (q2, .inl (cy 0, 30, .inl fd)), (q4, .inl (cy 0, 30, .inl fs))], w, xW cy xtb a S1]) H → va_D A (List.flatten [[(z0, .inr (12, [.ref b, .ref q1, .ref q2, .ref q3, .ref q4, .ref q5, .ref q6, .ref q7])), (q1, .inl (cy 0, 6, .inl fh)), (q2, .inl (cy 0, 30, .inl fd)), (q4, .inl (cy 0, 30, .inl fs))], w, xW cy xtb a S1]) → va_S A s.heap H locs → W p l e R s m args below meth c H locs k n Q (F0 m 891 ls [])) : ∀ (d i : Nat), i + d = 6 → ∀ (S1 : xSt) (g : Int → Int) (hB : BX (uh (trF s9 i η) 8 g) gn S1) (hi : iX η S1) (H : Heap) (locs : List Loc) (ls : Array Slot), lv_has ls 21 [(0, .ref b), (1, .ref (a 0)), (2, .ref z0), (3, .ref y), (11, .int (ki (dd : Int))), (13, .int (ki (kk9 : Int))), (14, .int (ki m9)), (15, .int (ki s9)), (16, .int (ki (i : Int)))] → va_P D vwCl (List.flatten [[(z0, .inr (12, [.ref b, .ref q1, .ref q2, .ref q3, .ref q4, .ref q5, .ref q6, .ref q7])), (q1, .inl (cy 0, 6, .inl fh)), (q2, .inl (cy 0, 30, .inl fd)), (q4, .inl (cy 0, 30, .inl fs))], w, xW cy xtb a S1]) H → va_D A (List.flatten [[(z0, .inr (12, [.ref b, .ref q1, .ref q2, .ref q3, .ref q4, .ref q5, .ref q6, .ref q7])), (q1, .inl (cy 0, 6, .inl fh)), (q2, .inl (cy 0, 30, .inl fd)), (q4, .inl (cy 0, 30, .inl fs))], w, xW cy xtb a S1]) → va_S A s.heap H locs → W p l e R s m args below meth c H locs k n Q (F0 m 849 ls []) := by
  intro d
  induction d with
  | zero =>
    intro i hix S1 g hB hi H locs ls hl hP hD hS
    have hix : 6 = i := by omega
    subst hix
    refine lv_iload hx hb dL_law_849 (lv_at hl 8 rfl) ?_
    refine lv_bipush (v := ki 6) hx hb dL_law_851 rfl ?_
    refine kv_icmp_ge_t (tgt := 891) hx hb (by omega) (by omega) (by omega) (by omega) (by omega) dL_law_853 (by decide) ?_
    exact kk S1 g hB hi H _ ls (lv_sub hl [0, 1, 2, 3, 4, 5, 6, 7] rfl) hP hD hS
  | succ d ih =>
    intro i hix S1 g hB hi H locs ls hl hP hD hS
    have hgb := hgS_b (L := L) (xs := xs) (i : Int)
    have hdv := dv_b (x := s9) (by omega) i
    have he1 := hE.1 (i : Int) (by omega) (by omega)
    refine lv_iload hx hb dL_law_849 (lv_at hl 8 rfl) ?_
    refine lv_bipush (v := ki 6) hx hb dL_law_851 rfl ?_
    refine kv_icmp_ge_f (tgt := 891) hx hb (by omega) (by omega) (by omega) (by omega) (by omega) dL_law_853 (by decide) ?_
    refine lv_iload hx hb dL_law_856 (lv_at hl 7 rfl) ?_
    refine lv_iload hx hb dL_law_858 (lv_at hl 8 rfl) ?_
    refine kv_shr (r := s9 / ((2 ^ i : Nat) : Int)) hx hb i rfl (by omega) (by omega) (by omega) rfl dL_law_860 ?_
    refine lv_iconst (v := ki 1) hx hb dL_law_861 rfl ?_
    refine kv_and (r := (s9 / ((2 ^ i : Nat) : Int)) % 2) hx hb 1 rfl (by omega) (by omega) (by omega) rfl dL_law_862 ?_
    refine lv_iconst (v := ki 1) hx hb dL_law_863 rfl ?_
    refine kv_icmp_ne (tgt := 885) hx hb (by omega) (by omega) (by omega) (by omega) dL_law_864 (by decide) (fun hbt => ?_) (fun hbt => ?_)
    · refine lv_iinc (v := ki ((i + 1 : Nat) : Int)) (lv' := [(16, .int (ki ((i + 1 : Nat) : Int))), (0, .ref b), (1, .ref (a 0)), (2, .ref z0), (3, .ref y), (11, .int (ki (dd : Int))), (13, .int (ki (kk9 : Int))), (14, .int (ki m9)), (15, .int (ki s9))]) hx hb dL_law_885 hl (k := 8) rfl ((ki_add _ _).trans (congrArg ki (by omega))) (by decide) rfl (fun ls hl => ?_)
      refine lv_goto (tgt := 849) hx hb dL_law_888 (by decide) ?_
      exact ih (i + 1) (by omega) _ g (by rw [show trF s9 (i + 1) η = trF s9 i η from if_neg hbt]; exact hB) hi H _ ls (lv_sub hl [1, 2, 3, 4, 5, 6, 7, 8, 0] rfl) hP hD hS
    · refine lv_aload_n hx hb dL_law_867 rfl (lv_at hl 1 rfl) ?_
      refine lv_iload hx hb dL_law_868 (lv_at hl 8 rfl) ?_
      obtain ⟨⟨S870, v870⟩, hf870, hq870⟩ := t_turned8 (S := S1) hB (c := (i : Int)) (by omega) (by omega)
      dsimp only at hq870
      obtain ⟨hv9, hB, hf9⟩ := hq870
      subst hv9
      have hi := iX_2 hi hf9
      rw [trF_1] at hf870
      have hB := hB
      have hPc := blk_P (bs := ([[(z0, .inr (12, [.ref b, .ref q1, .ref q2, .ref q3, .ref q4, .ref q5, .ref q6, .ref q7])), (q1, .inl (cy 0, 6, .inl fh)), (q2, .inl (cy 0, 30, .inl fd)), (q4, .inl (cy 0, 30, .inl fs))], w, xW cy xtb a S1] : List va_W)) (rs := ([[(z0, .inr (12, [.ref b, .ref q1, .ref q2, .ref q3, .ref q4, .ref q5, .ref q6, .ref q7])), (q1, .inl (cy 0, 6, .inl fh)), (q2, .inl (cy 0, 30, .inl fd)), (q4, .inl (cy 0, 30, .inl fs))], w] : List va_W)) (x := xW cy xtb a S1) 2 rfl rfl hP
      have hDc := blk_D (bs := ([[(z0, .inr (12, [.ref b, .ref q1, .ref q2, .ref q3, .ref q4, .ref q5, .ref q6, .ref q7])), (q1, .inl (cy 0, 6, .inl fh)), (q2, .inl (cy 0, 30, .inl fd)), (q4, .inl (cy 0, 30, .inl fs))], w, xW cy xtb a S1] : List va_W)) (rs := ([[(z0, .inr (12, [.ref b, .ref q1, .ref q2, .ref q3, .ref q4, .ref q5, .ref q6, .ref q7])), (q1, .inl (cy 0, 6, .inl fh)), (q2, .inl (cy 0, 30, .inl fd)), (q4, .inl (cy 0, 30, .inl fs))], w] : List va_W)) (x := xW cy xtb a S1) 2 rfl rfl hD
      refine lw_vi hx hb hml hown hts (K_sub hK) hEx hI hPc hDc hS hA (⟨xw_mem 757 (by decide +kernel) rfl, xw_mem 30 (by decide +kernel) rfl, xw_mem 754 (by decide +kernel) rfl, by decide +kernel⟩ : xML RL 171 yX11_turned cX11_turned 2 (some .int) 1) (xw_mem 755 (by decide +kernel) rfl) (xw_mem 756 (by decide +kernel) rfl) (he := rfl) (by decide) rfl [.int (ki (i : Int))] (rest := []) (c_X11_turned hI hf870 _) ⟨by omega, by omega⟩ ⟨by omega, by omega⟩ rfl hl.1 rfl (Nat.le_of_ble_eq_true (rfl)) dL_law_870 (fun H locs hPn hS => ?_)
      have hDn := xD_st (S' := S870) hDc
      have hP := blk_P2 (bs := ([[(z0, .inr (12, [.ref b, .ref q1, .ref q2, .ref q3, .ref q4, .ref q5, .ref q6, .ref q7])), (q1, .inl (cy 0, 6, .inl fh)), (q2, .inl (cy 0, 30, .inl fd)), (q4, .inl (cy 0, 30, .inl fs))], w, xW cy xtb a S870] : List va_W)) (rs := ([[(z0, .inr (12, [.ref b, .ref q1, .ref q2, .ref q3, .ref q4, .ref q5, .ref q6, .ref q7])), (q1, .inl (cy 0, 6, .inl fh)), (q2, .inl (cy 0, 30, .inl fd)), (q4, .inl (cy 0, 30, .inl fs))], w] : List va_W)) (x := xW cy xtb a S870) 2 rfl rfl hPn
      have hD := blk_D2 (bs := ([[(z0, .inr (12, [.ref b, .ref q1, .ref q2, .ref q3, .ref q4, .ref q5, .ref q6, .ref q7])), (q1, .inl (cy 0, 6, .inl fh)), (q2, .inl (cy 0, 30, .inl fd)), (q4, .inl (cy 0, 30, .inl fs))], w, xW cy xtb a S870] : List va_W)) (rs := ([[(z0, .inr (12, [.ref b, .ref q1, .ref q2, .ref q3, .ref q4, .ref q5, .ref q6, .ref q7])), (q1, .inl (cy 0, 6, .inl fh)), (q2, .inl (cy 0, 30, .inl fd)), (q4, .inl (cy 0, 30, .inl fs))], w] : List va_W)) (x := xW cy xtb a S870) 2 rfl rfl hDn
      refine lv_aload_n hx hb dL_law_873 rfl (lv_at hl 2 rfl) ?_
      refine va_getN (ref := RX12) (host := RL) (D := D) (ci := 12) (v := .ref q1) (C := RX12) (T := TX12) (N := 8) hx hb hts xin_X12 hown hK hP 0 rfl rfl 1 (by decide) (va_Nw.use rfl hF.1) (fun _ h9 => h9) rfl dL_law_874 ?_
      refine lv_iload hx hb dL_law_877 (lv_at hl 8 rfl) ?_
      refine kv_ald hx hb hK hP 1 0 rfl rfl (v := hgS L xs (i : Int)) (by omega) (by omega) (by omega) (hh i (by omega)) dL_law_879 ?_
      refine kv_icmp_eq_t (tgt := 885) hx hb (by rw [hE.1 _ (by omega) (by omega)]) (by omega) (by omega) (by omega) (by omega) dL_law_880 (by decide) ?_
      refine lv_iinc (v := ki ((i + 1 : Nat) : Int)) (lv' := [(16, .int (ki ((i + 1 : Nat) : Int))), (0, .ref b), (1, .ref (a 0)), (2, .ref z0), (3, .ref y), (11, .int (ki (dd : Int))), (13, .int (ki (kk9 : Int))), (14, .int (ki m9)), (15, .int (ki s9))]) hx hb dL_law_885 hl (k := 8) rfl ((ki_add _ _).trans (congrArg ki (by omega))) (by decide) rfl (fun ls hl => ?_)
      refine lv_goto (tgt := 849) hx hb dL_law_888 (by decide) ?_
      exact ih (i + 1) (by omega) _ _ (by rw [show trF s9 (i + 1) η = turS i (trF s9 i η) from if_pos hbt]; exact hB) hi H _ ls (lv_sub hl [1, 2, 3, 4, 5, 6, 7, 8, 0] rfl) hP hD hS
set_option maxHeartbeats 4000000 in
set_option maxRecDepth 20000 in
theorem TU_2 (hx : p.tables.exec = Jvm.exec) (hb : c.code = cL_law) (hml : c.maxLocals = 21) (hown : s.vm.findClass RL = some m.cls) (hts : ∀ w ∈ xTB, w.before args s = true) (hK : va_K D vwCl (xtyL cy) s) (hN : jN mi s) (hZ : jZ zE zc ad A s s.heap) (hX : va_X b L xs s s.heap) (hbl : b < s.heap.size) (hbA : ¬ A b) (hNs : nS s) (hEx : xEx z A s s.heap) (hA : ∀ q, s.heap.size ≤ q → A q) (hI : xI xtb a) (hR : 100 ≤ R.frames ∧ 4000 ≤ R.locals ∧ 600000 ≤ R.cells ∧ 7302250 ≤ R.slots) (hL : L ≤ 1000) (hF : nF s) (hkn : k ≤ R.cells ∧ n ≤ R.slots) (hd : dd ≤ 11) (hE : bE L xs η) (hh : ∀ j : Nat, j < 6 → fh j = ki (hgS L xs j)) (hw9 : isL cy zE ad y (csI L xs 30) w) (kk : ∀ (S1 : xSt) (hB : BX η gn S1) (hi : iX η S1) (H : Heap) (locs : List Loc) (ls : Array Slot), lv_has ls 21 [(0, .ref b), (1, .ref (a 0)), (2, .ref z0), (3, .ref y), (11, .int (ki (dd : Int)))] → va_P D vwCl (List.flatten [[(z0, .inr (12, [.ref b, .ref q1, .ref q2, .ref q3, .ref q4, .ref q5, .ref q6, .ref q7])), (q1, .inl (cy 0, 6, .inl fh)), (q2, .inl (cy 0, 30, .inl fd)), (q4, .inl (cy 0, 30, .inl fs))], w, xW cy xtb a S1]) H → va_D A (List.flatten [[(z0, .inr (12, [.ref b, .ref q1, .ref q2, .ref q3, .ref q4, .ref q5, .ref q6, .ref q7])), (q1, .inl (cy 0, 6, .inl fh)), (q2, .inl (cy 0, 30, .inl fd)), (q4, .inl (cy 0, 30, .inl fs))], w, xW cy xtb a S1]) → va_S A s.heap H locs → W p l e R s m args below meth c H locs k n Q (F0 m 918 ls [])) : ∀ (d9 i : Nat), i + d9 = 4 → ∀ (S1 : xSt) (hB : BX η gn S1) (hi : iX η S1) (H : Heap) (locs : List Loc) (ls : Array Slot), lv_has ls 21 [(0, .ref b), (1, .ref (a 0)), (2, .ref z0), (3, .ref y), (11, .int (ki (dd : Int))), (13, .int (ki (i : Int)))] → va_P D vwCl (List.flatten [[(z0, .inr (12, [.ref b, .ref q1, .ref q2, .ref q3, .ref q4, .ref q5, .ref q6, .ref q7])), (q1, .inl (cy 0, 6, .inl fh)), (q2, .inl (cy 0, 30, .inl fd)), (q4, .inl (cy 0, 30, .inl fs))], w, xW cy xtb a S1]) H → va_D A (List.flatten [[(z0, .inr (12, [.ref b, .ref q1, .ref q2, .ref q3, .ref q4, .ref q5, .ref q6, .ref q7])), (q1, .inl (cy 0, 6, .inl fh)), (q2, .inl (cy 0, 30, .inl fd)), (q4, .inl (cy 0, 30, .inl fs))], w, xW cy xtb a S1]) → va_S A s.heap H locs → W p l e R s m args below meth c H locs k n Q (F0 m 739 ls []) := by
  intro d9
  induction d9 with
  | zero =>
    intro i hix S1 hB hi H locs ls hl hP hD hS
    have hix : 4 = i := by omega
    subst hix
    refine lv_iload hx hb dL_law_739 (lv_at hl 5 rfl) ?_
    refine lv_iconst (v := ki 4) hx hb dL_law_741 rfl ?_
    refine kv_icmp_ge_t (tgt := 918) hx hb (by omega) (by omega) (by omega) (by omega) (by omega) dL_law_742 (by decide) ?_
    exact kk S1 hB hi H _ ls (lv_sub hl [0, 1, 2, 3, 4] rfl) hP hD hS
  | succ d9 ih =>
    intro i hix S1 hB hi H locs ls hl hP hD hS
    have hwf := hB.1
    obtain ⟨m9, s9, em, es, ⟨hnc, rfl, rfl⟩ | ⟨hnc, h0, h99, h0s, h1s, hps, htv⟩⟩ := tu_1 (gn := gn) (η := η) (d := dd) (k9 := i) (by omega) hwf
    · refine lv_iload hx hb dL_law_739 (lv_at hl 5 rfl) ?_
      refine lv_iconst (v := ki 4) hx hb dL_law_741 rfl ?_
      refine kv_icmp_ge_f (tgt := 918) hx hb (by omega) (by omega) (by omega) (by omega) (by omega) dL_law_742 (by decide) ?_
      refine lv_aload_n hx hb dL_law_745 rfl (lv_at hl 1 rfl) ?_
      refine lv_iload hx hb dL_law_746 (lv_at hl 5 rfl) ?_
      refine lv_iload hx hb dL_law_748 (lv_at hl 4 rfl) ?_
      refine lv_iconst (v := ki 0) hx hb dL_law_750 rfl ?_
      obtain ⟨⟨S751, v751⟩, hf751, hq751⟩ := t_turn (S := S1) hB (n := dd) (k := (i : Int)) (w := 0) (by omega) (by omega) (by omega) (by omega) (by omega)
      dsimp only at hq751
      obtain ⟨hv9, hf9, hl9⟩ := hq751
      subst hv9
      have hB := BX_q hB hf9 hl9
      have hi := iX_q hi hf9
      rw [if_pos rfl, em] at hf751
      have hPc := blk_P (bs := ([[(z0, .inr (12, [.ref b, .ref q1, .ref q2, .ref q3, .ref q4, .ref q5, .ref q6, .ref q7])), (q1, .inl (cy 0, 6, .inl fh)), (q2, .inl (cy 0, 30, .inl fd)), (q4, .inl (cy 0, 30, .inl fs))], w, xW cy xtb a S1] : List va_W)) (rs := ([[(z0, .inr (12, [.ref b, .ref q1, .ref q2, .ref q3, .ref q4, .ref q5, .ref q6, .ref q7])), (q1, .inl (cy 0, 6, .inl fh)), (q2, .inl (cy 0, 30, .inl fd)), (q4, .inl (cy 0, 30, .inl fs))], w] : List va_W)) (x := xW cy xtb a S1) 2 rfl rfl hP
      have hDc := blk_D (bs := ([[(z0, .inr (12, [.ref b, .ref q1, .ref q2, .ref q3, .ref q4, .ref q5, .ref q6, .ref q7])), (q1, .inl (cy 0, 6, .inl fh)), (q2, .inl (cy 0, 30, .inl fd)), (q4, .inl (cy 0, 30, .inl fs))], w, xW cy xtb a S1] : List va_W)) (rs := ([[(z0, .inr (12, [.ref b, .ref q1, .ref q2, .ref q3, .ref q4, .ref q5, .ref q6, .ref q7])), (q1, .inl (cy 0, 6, .inl fh)), (q2, .inl (cy 0, 30, .inl fd)), (q4, .inl (cy 0, 30, .inl fs))], w] : List va_W)) (x := xW cy xtb a S1) 2 rfl rfl hD
      refine lw_vi hx hb hml hown hts (K_sub hK) hEx hI hPc hDc hS hA (⟨xw_mem 589 (by decide +kernel) rfl, xw_mem 30 (by decide +kernel) rfl, xw_mem 586 (by decide +kernel) rfl, by decide +kernel⟩ : xML RL 166 yX11_turn cX11_turn 4 (some .int) 3) (xw_mem 587 (by decide +kernel) rfl) (xw_mem 588 (by decide +kernel) rfl) (he := rfl) (by decide) rfl [.int (ki (i : Int)), .int (ki (dd : Int)), .int (ki 0)] (rest := []) (c_X11_turn hI hf751 _) ⟨by omega, by omega⟩ ⟨by omega, by omega⟩ rfl hl.1 rfl (Nat.le_of_ble_eq_true (rfl)) dL_law_751 (fun H locs hPn hS => ?_)
      have hDn := xD_st (S' := S751) hDc
      have hP := blk_P2 (bs := ([[(z0, .inr (12, [.ref b, .ref q1, .ref q2, .ref q3, .ref q4, .ref q5, .ref q6, .ref q7])), (q1, .inl (cy 0, 6, .inl fh)), (q2, .inl (cy 0, 30, .inl fd)), (q4, .inl (cy 0, 30, .inl fs))], w, xW cy xtb a S751] : List va_W)) (rs := ([[(z0, .inr (12, [.ref b, .ref q1, .ref q2, .ref q3, .ref q4, .ref q5, .ref q6, .ref q7])), (q1, .inl (cy 0, 6, .inl fh)), (q2, .inl (cy 0, 30, .inl fd)), (q4, .inl (cy 0, 30, .inl fs))], w] : List va_W)) (x := xW cy xtb a S751) 2 rfl rfl hPn
      have hD := blk_D2 (bs := ([[(z0, .inr (12, [.ref b, .ref q1, .ref q2, .ref q3, .ref q4, .ref q5, .ref q6, .ref q7])), (q1, .inl (cy 0, 6, .inl fh)), (q2, .inl (cy 0, 30, .inl fd)), (q4, .inl (cy 0, 30, .inl fs))], w, xW cy xtb a S751] : List va_W)) (rs := ([[(z0, .inr (12, [.ref b, .ref q1, .ref q2, .ref q3, .ref q4, .ref q5, .ref q6, .ref q7])), (q1, .inl (cy 0, 6, .inl fh)), (q2, .inl (cy 0, 30, .inl fd)), (q4, .inl (cy 0, 30, .inl fs))], w] : List va_W)) (x := xW cy xtb a S751) 2 rfl rfl hDn
      refine lv_istore (lv' := [(14, .int (ki (-2))), (0, .ref b), (1, .ref (a 0)), (2, .ref z0), (3, .ref y), (11, .int (ki (dd : Int))), (13, .int (ki (i : Int)))]) hx hb dL_law_754 hl (by decide) rfl (fun ls hl => ?_)
      refine lv_aload_n hx hb dL_law_756 rfl (lv_at hl 2 rfl) ?_
      refine lv_iload hx hb dL_law_757 (lv_at hl 6 rfl) ?_
      refine lv_iload hx hb dL_law_759 (lv_at hl 5 rfl) ?_
      refine lv_iconst (v := ki 1) hx hb dL_law_761 rfl ?_
      obtain ⟨⟨S762, v762⟩, hf762, hq762⟩ := t_turn (S := S751) hB (n := dd) (k := (i : Int)) (w := 1) (by omega) (by omega) (by omega) (by omega) (by omega)
      dsimp only at hq762
      obtain ⟨hv9, hf9, hl9⟩ := hq762
      subst hv9
      have hB := BX_q hB hf9 hl9
      have hi := iX_q hi hf9
      rw [if_neg (by decide), es] at hf762
      have hPc := blk_P (bs := ([[(z0, .inr (12, [.ref b, .ref q1, .ref q2, .ref q3, .ref q4, .ref q5, .ref q6, .ref q7])), (q1, .inl (cy 0, 6, .inl fh)), (q2, .inl (cy 0, 30, .inl fd)), (q4, .inl (cy 0, 30, .inl fs))], w, xW cy xtb a S751] : List va_W)) (rs := ([[(z0, .inr (12, [.ref b, .ref q1, .ref q2, .ref q3, .ref q4, .ref q5, .ref q6, .ref q7])), (q1, .inl (cy 0, 6, .inl fh)), (q2, .inl (cy 0, 30, .inl fd)), (q4, .inl (cy 0, 30, .inl fs))], w] : List va_W)) (x := xW cy xtb a S751) 2 rfl rfl hP
      have hDc := blk_D (bs := ([[(z0, .inr (12, [.ref b, .ref q1, .ref q2, .ref q3, .ref q4, .ref q5, .ref q6, .ref q7])), (q1, .inl (cy 0, 6, .inl fh)), (q2, .inl (cy 0, 30, .inl fd)), (q4, .inl (cy 0, 30, .inl fs))], w, xW cy xtb a S751] : List va_W)) (rs := ([[(z0, .inr (12, [.ref b, .ref q1, .ref q2, .ref q3, .ref q4, .ref q5, .ref q6, .ref q7])), (q1, .inl (cy 0, 6, .inl fh)), (q2, .inl (cy 0, 30, .inl fd)), (q4, .inl (cy 0, 30, .inl fs))], w] : List va_W)) (x := xW cy xtb a S751) 2 rfl rfl hD
      refine lw_vi hx hb hml hown hts (K_sub hK) hEx hI hPc hDc hS hA (⟨xw_mem 589 (by decide +kernel) rfl, xw_mem 30 (by decide +kernel) rfl, xw_mem 586 (by decide +kernel) rfl, by decide +kernel⟩ : xML RL 166 yX11_turn cX11_turn 4 (some .int) 3) (xw_mem 587 (by decide +kernel) rfl) (xw_mem 588 (by decide +kernel) rfl) (he := rfl) (by decide) rfl [.int (ki (i : Int)), .int (ki (dd : Int)), .int (ki 1)] (rest := []) (c_X11_turn hI hf762 _) ⟨by omega, by omega⟩ ⟨by omega, by omega⟩ rfl hl.1 rfl (Nat.le_of_ble_eq_true (rfl)) dL_law_762 (fun H locs hPn hS => ?_)
      have hDn := xD_st (S' := S762) hDc
      have hP := blk_P2 (bs := ([[(z0, .inr (12, [.ref b, .ref q1, .ref q2, .ref q3, .ref q4, .ref q5, .ref q6, .ref q7])), (q1, .inl (cy 0, 6, .inl fh)), (q2, .inl (cy 0, 30, .inl fd)), (q4, .inl (cy 0, 30, .inl fs))], w, xW cy xtb a S762] : List va_W)) (rs := ([[(z0, .inr (12, [.ref b, .ref q1, .ref q2, .ref q3, .ref q4, .ref q5, .ref q6, .ref q7])), (q1, .inl (cy 0, 6, .inl fh)), (q2, .inl (cy 0, 30, .inl fd)), (q4, .inl (cy 0, 30, .inl fs))], w] : List va_W)) (x := xW cy xtb a S762) 2 rfl rfl hPn
      have hD := blk_D2 (bs := ([[(z0, .inr (12, [.ref b, .ref q1, .ref q2, .ref q3, .ref q4, .ref q5, .ref q6, .ref q7])), (q1, .inl (cy 0, 6, .inl fh)), (q2, .inl (cy 0, 30, .inl fd)), (q4, .inl (cy 0, 30, .inl fs))], w, xW cy xtb a S762] : List va_W)) (rs := ([[(z0, .inr (12, [.ref b, .ref q1, .ref q2, .ref q3, .ref q4, .ref q5, .ref q6, .ref q7])), (q1, .inl (cy 0, 6, .inl fh)), (q2, .inl (cy 0, 30, .inl fd)), (q4, .inl (cy 0, 30, .inl fs))], w] : List va_W)) (x := xW cy xtb a S762) 2 rfl rfl hDn
      refine lv_istore (lv' := [(15, .int (ki (-2))), (14, .int (ki (-2))), (0, .ref b), (1, .ref (a 0)), (2, .ref z0), (3, .ref y), (11, .int (ki (dd : Int))), (13, .int (ki (i : Int)))]) hx hb dL_law_765 hl (by decide) rfl (fun ls hl => ?_)
      refine lv_iload hx hb dL_law_767 (lv_at hl 1 rfl) ?_
      refine kv_if_ge_f (tgt := 776) hx hb (by omega) (by omega) (by omega) dL_law_769 (by decide) ?_
      refine lv_iconst (v := ki 1) hx hb dL_law_772 rfl ?_
      refine lv_goto (tgt := 777) hx hb dL_law_773 (by decide) ?_
      refine lv_aload_n hx hb dL_law_777 rfl (lv_at hl 5 rfl) ?_
      have hPc := blk_P (bs := ([[(z0, .inr (12, [.ref b, .ref q1, .ref q2, .ref q3, .ref q4, .ref q5, .ref q6, .ref q7])), (q1, .inl (cy 0, 6, .inl fh)), (q2, .inl (cy 0, 30, .inl fd)), (q4, .inl (cy 0, 30, .inl fs))], w, xW cy xtb a S762] : List va_W)) (rs := ([[(z0, .inr (12, [.ref b, .ref q1, .ref q2, .ref q3, .ref q4, .ref q5, .ref q6, .ref q7])), (q1, .inl (cy 0, 6, .inl fh)), (q2, .inl (cy 0, 30, .inl fd)), (q4, .inl (cy 0, 30, .inl fs))], xW cy xtb a S762] : List va_W)) (x := w) 1 rfl rfl hP
      have hDc := blk_D (bs := ([[(z0, .inr (12, [.ref b, .ref q1, .ref q2, .ref q3, .ref q4, .ref q5, .ref q6, .ref q7])), (q1, .inl (cy 0, 6, .inl fh)), (q2, .inl (cy 0, 30, .inl fd)), (q4, .inl (cy 0, 30, .inl fs))], w, xW cy xtb a S762] : List va_W)) (rs := ([[(z0, .inr (12, [.ref b, .ref q1, .ref q2, .ref q3, .ref q4, .ref q5, .ref q6, .ref q7])), (q1, .inl (cy 0, 6, .inl fh)), (q2, .inl (cy 0, 30, .inl fd)), (q4, .inl (cy 0, 30, .inl fs))], xW cy xtb a S762] : List va_W)) (x := w) 1 rfl rfl hD
      refine lk_isEmpty hx hb hml hown hts hK hN hZ hS hA hl.1 (Nat.le_of_ble_eq_true (rfl)) (rest := [.int (ki 1)]) (⟨xw_mem 1071 (by decide +kernel) rfl, xw_mem 46 (by decide +kernel) rfl, xw_mem 1068 (by decide +kernel) rfl, by decide +kernel⟩ : xML RL 87 yJx4a65c_isEmpty_aae02 cJx4a65c_isEmpty_aae02 1 (some .boolean) 0) hw9 hPc hDc ⟨by omega, by omega⟩ ⟨by omega, by omega⟩ dL_law_778 (fun  H locs hPn hDn hS => ?_)
      have hP := blk_P2 (bs := ([[(z0, .inr (12, [.ref b, .ref q1, .ref q2, .ref q3, .ref q4, .ref q5, .ref q6, .ref q7])), (q1, .inl (cy 0, 6, .inl fh)), (q2, .inl (cy 0, 30, .inl fd)), (q4, .inl (cy 0, 30, .inl fs))], w, xW cy xtb a S762] : List va_W)) (rs := ([[(z0, .inr (12, [.ref b, .ref q1, .ref q2, .ref q3, .ref q4, .ref q5, .ref q6, .ref q7])), (q1, .inl (cy 0, 6, .inl fh)), (q2, .inl (cy 0, 30, .inl fd)), (q4, .inl (cy 0, 30, .inl fs))], xW cy xtb a S762] : List va_W)) (x := w) 1 rfl rfl hPn
      have hD := blk_D2 (bs := ([[(z0, .inr (12, [.ref b, .ref q1, .ref q2, .ref q3, .ref q4, .ref q5, .ref q6, .ref q7])), (q1, .inl (cy 0, 6, .inl fh)), (q2, .inl (cy 0, 30, .inl fd)), (q4, .inl (cy 0, 30, .inl fs))], w, xW cy xtb a S762] : List va_W)) (rs := ([[(z0, .inr (12, [.ref b, .ref q1, .ref q2, .ref q3, .ref q4, .ref q5, .ref q6, .ref q7])), (q1, .inl (cy 0, 6, .inl fh)), (q2, .inl (cy 0, 30, .inl fd)), (q4, .inl (cy 0, 30, .inl fs))], xW cy xtb a S762] : List va_W)) (x := w) 1 rfl rfl hDn
      rw [show bi ((csI L xs 30).length = 0) = 1 from if_pos ((cs_nc hE).mpr hnc)]
      refine kv_icmp_ne_f (tgt := 807) hx hb (by omega) (by omega) (by omega) (by omega) (by omega) dL_law_781 (by decide) ?_
      refine lv_iload hx hb dL_law_784 (lv_at hl 1 rfl) ?_
      refine kv_if_ge_f (tgt := 793) hx hb (by omega) (by omega) (by omega) dL_law_786 (by decide) ?_
      refine lv_iconst (v := ki 1) hx hb dL_law_789 rfl ?_
      refine lv_goto (tgt := 794) hx hb dL_law_790 (by decide) ?_
      refine lv_iload hx hb dL_law_794 (lv_at hl 0 rfl) ?_
      refine kv_if_ge_f (tgt := 803) hx hb (by omega) (by omega) (by omega) dL_law_796 (by decide) ?_
      refine lv_iconst (v := ki 1) hx hb dL_law_799 rfl ?_
      refine lv_goto (tgt := 804) hx hb dL_law_800 (by decide) ?_
      refine kv_icmp_eq_t (tgt := 809) hx hb (by omega) (by omega) (by omega) (by omega) (by omega) dL_law_804 (by decide) ?_
      refine lv_iload hx hb dL_law_809 (lv_at hl 1 rfl) ?_
      refine kv_if_ge_f (tgt := 817) hx hb (by omega) (by omega) (by omega) dL_law_811 (by decide) ?_
      refine lv_goto (tgt := 912) hx hb dL_law_814 (by decide) ?_
      refine lv_iinc (v := ki ((i + 1 : Nat) : Int)) (lv' := [(13, .int (ki ((i + 1 : Nat) : Int))), (15, .int (ki (-2))), (14, .int (ki (-2))), (0, .ref b), (1, .ref (a 0)), (2, .ref z0), (3, .ref y), (11, .int (ki (dd : Int)))]) hx hb dL_law_912 hl (k := 7) rfl ((ki_add _ _).trans (congrArg ki (by omega))) (by decide) rfl (fun ls hl => ?_)
      refine lv_goto (tgt := 739) hx hb dL_law_915 (by decide) ?_
      exact ih (i + 1) (by omega) _ hB hi H _ ls (lv_sub hl [3, 4, 5, 6, 7, 0] rfl) hP hD hS
    · refine lv_iload hx hb dL_law_739 (lv_at hl 5 rfl) ?_
      refine lv_iconst (v := ki 4) hx hb dL_law_741 rfl ?_
      refine kv_icmp_ge_f (tgt := 918) hx hb (by omega) (by omega) (by omega) (by omega) (by omega) dL_law_742 (by decide) ?_
      refine lv_aload_n hx hb dL_law_745 rfl (lv_at hl 1 rfl) ?_
      refine lv_iload hx hb dL_law_746 (lv_at hl 5 rfl) ?_
      refine lv_iload hx hb dL_law_748 (lv_at hl 4 rfl) ?_
      refine lv_iconst (v := ki 0) hx hb dL_law_750 rfl ?_
      obtain ⟨⟨S751, v751⟩, hf751, hq751⟩ := t_turn (S := S1) hB (n := dd) (k := (i : Int)) (w := 0) (by omega) (by omega) (by omega) (by omega) (by omega)
      dsimp only at hq751
      obtain ⟨hv9, hf9, hl9⟩ := hq751
      subst hv9
      have hB := BX_q hB hf9 hl9
      have hi := iX_q hi hf9
      rw [if_pos rfl, em] at hf751
      have hPc := blk_P (bs := ([[(z0, .inr (12, [.ref b, .ref q1, .ref q2, .ref q3, .ref q4, .ref q5, .ref q6, .ref q7])), (q1, .inl (cy 0, 6, .inl fh)), (q2, .inl (cy 0, 30, .inl fd)), (q4, .inl (cy 0, 30, .inl fs))], w, xW cy xtb a S1] : List va_W)) (rs := ([[(z0, .inr (12, [.ref b, .ref q1, .ref q2, .ref q3, .ref q4, .ref q5, .ref q6, .ref q7])), (q1, .inl (cy 0, 6, .inl fh)), (q2, .inl (cy 0, 30, .inl fd)), (q4, .inl (cy 0, 30, .inl fs))], w] : List va_W)) (x := xW cy xtb a S1) 2 rfl rfl hP
      have hDc := blk_D (bs := ([[(z0, .inr (12, [.ref b, .ref q1, .ref q2, .ref q3, .ref q4, .ref q5, .ref q6, .ref q7])), (q1, .inl (cy 0, 6, .inl fh)), (q2, .inl (cy 0, 30, .inl fd)), (q4, .inl (cy 0, 30, .inl fs))], w, xW cy xtb a S1] : List va_W)) (rs := ([[(z0, .inr (12, [.ref b, .ref q1, .ref q2, .ref q3, .ref q4, .ref q5, .ref q6, .ref q7])), (q1, .inl (cy 0, 6, .inl fh)), (q2, .inl (cy 0, 30, .inl fd)), (q4, .inl (cy 0, 30, .inl fs))], w] : List va_W)) (x := xW cy xtb a S1) 2 rfl rfl hD
      refine lw_vi hx hb hml hown hts (K_sub hK) hEx hI hPc hDc hS hA (⟨xw_mem 589 (by decide +kernel) rfl, xw_mem 30 (by decide +kernel) rfl, xw_mem 586 (by decide +kernel) rfl, by decide +kernel⟩ : xML RL 166 yX11_turn cX11_turn 4 (some .int) 3) (xw_mem 587 (by decide +kernel) rfl) (xw_mem 588 (by decide +kernel) rfl) (he := rfl) (by decide) rfl [.int (ki (i : Int)), .int (ki (dd : Int)), .int (ki 0)] (rest := []) (c_X11_turn hI hf751 _) ⟨by omega, by omega⟩ ⟨by omega, by omega⟩ rfl hl.1 rfl (Nat.le_of_ble_eq_true (rfl)) dL_law_751 (fun H locs hPn hS => ?_)
      have hDn := xD_st (S' := S751) hDc
      have hP := blk_P2 (bs := ([[(z0, .inr (12, [.ref b, .ref q1, .ref q2, .ref q3, .ref q4, .ref q5, .ref q6, .ref q7])), (q1, .inl (cy 0, 6, .inl fh)), (q2, .inl (cy 0, 30, .inl fd)), (q4, .inl (cy 0, 30, .inl fs))], w, xW cy xtb a S751] : List va_W)) (rs := ([[(z0, .inr (12, [.ref b, .ref q1, .ref q2, .ref q3, .ref q4, .ref q5, .ref q6, .ref q7])), (q1, .inl (cy 0, 6, .inl fh)), (q2, .inl (cy 0, 30, .inl fd)), (q4, .inl (cy 0, 30, .inl fs))], w] : List va_W)) (x := xW cy xtb a S751) 2 rfl rfl hPn
      have hD := blk_D2 (bs := ([[(z0, .inr (12, [.ref b, .ref q1, .ref q2, .ref q3, .ref q4, .ref q5, .ref q6, .ref q7])), (q1, .inl (cy 0, 6, .inl fh)), (q2, .inl (cy 0, 30, .inl fd)), (q4, .inl (cy 0, 30, .inl fs))], w, xW cy xtb a S751] : List va_W)) (rs := ([[(z0, .inr (12, [.ref b, .ref q1, .ref q2, .ref q3, .ref q4, .ref q5, .ref q6, .ref q7])), (q1, .inl (cy 0, 6, .inl fh)), (q2, .inl (cy 0, 30, .inl fd)), (q4, .inl (cy 0, 30, .inl fs))], w] : List va_W)) (x := xW cy xtb a S751) 2 rfl rfl hDn
      refine lv_istore (lv' := [(14, .int (ki m9)), (0, .ref b), (1, .ref (a 0)), (2, .ref z0), (3, .ref y), (11, .int (ki (dd : Int))), (13, .int (ki (i : Int)))]) hx hb dL_law_754 hl (by decide) rfl (fun ls hl => ?_)
      refine lv_aload_n hx hb dL_law_756 rfl (lv_at hl 2 rfl) ?_
      refine lv_iload hx hb dL_law_757 (lv_at hl 6 rfl) ?_
      refine lv_iload hx hb dL_law_759 (lv_at hl 5 rfl) ?_
      refine lv_iconst (v := ki 1) hx hb dL_law_761 rfl ?_
      obtain ⟨⟨S762, v762⟩, hf762, hq762⟩ := t_turn (S := S751) hB (n := dd) (k := (i : Int)) (w := 1) (by omega) (by omega) (by omega) (by omega) (by omega)
      dsimp only at hq762
      obtain ⟨hv9, hf9, hl9⟩ := hq762
      subst hv9
      have hB := BX_q hB hf9 hl9
      have hi := iX_q hi hf9
      rw [if_neg (by decide), es] at hf762
      have hPc := blk_P (bs := ([[(z0, .inr (12, [.ref b, .ref q1, .ref q2, .ref q3, .ref q4, .ref q5, .ref q6, .ref q7])), (q1, .inl (cy 0, 6, .inl fh)), (q2, .inl (cy 0, 30, .inl fd)), (q4, .inl (cy 0, 30, .inl fs))], w, xW cy xtb a S751] : List va_W)) (rs := ([[(z0, .inr (12, [.ref b, .ref q1, .ref q2, .ref q3, .ref q4, .ref q5, .ref q6, .ref q7])), (q1, .inl (cy 0, 6, .inl fh)), (q2, .inl (cy 0, 30, .inl fd)), (q4, .inl (cy 0, 30, .inl fs))], w] : List va_W)) (x := xW cy xtb a S751) 2 rfl rfl hP
      have hDc := blk_D (bs := ([[(z0, .inr (12, [.ref b, .ref q1, .ref q2, .ref q3, .ref q4, .ref q5, .ref q6, .ref q7])), (q1, .inl (cy 0, 6, .inl fh)), (q2, .inl (cy 0, 30, .inl fd)), (q4, .inl (cy 0, 30, .inl fs))], w, xW cy xtb a S751] : List va_W)) (rs := ([[(z0, .inr (12, [.ref b, .ref q1, .ref q2, .ref q3, .ref q4, .ref q5, .ref q6, .ref q7])), (q1, .inl (cy 0, 6, .inl fh)), (q2, .inl (cy 0, 30, .inl fd)), (q4, .inl (cy 0, 30, .inl fs))], w] : List va_W)) (x := xW cy xtb a S751) 2 rfl rfl hD
      refine lw_vi hx hb hml hown hts (K_sub hK) hEx hI hPc hDc hS hA (⟨xw_mem 589 (by decide +kernel) rfl, xw_mem 30 (by decide +kernel) rfl, xw_mem 586 (by decide +kernel) rfl, by decide +kernel⟩ : xML RL 166 yX11_turn cX11_turn 4 (some .int) 3) (xw_mem 587 (by decide +kernel) rfl) (xw_mem 588 (by decide +kernel) rfl) (he := rfl) (by decide) rfl [.int (ki (i : Int)), .int (ki (dd : Int)), .int (ki 1)] (rest := []) (c_X11_turn hI hf762 _) ⟨by omega, by omega⟩ ⟨by omega, by omega⟩ rfl hl.1 rfl (Nat.le_of_ble_eq_true (rfl)) dL_law_762 (fun H locs hPn hS => ?_)
      have hDn := xD_st (S' := S762) hDc
      have hP := blk_P2 (bs := ([[(z0, .inr (12, [.ref b, .ref q1, .ref q2, .ref q3, .ref q4, .ref q5, .ref q6, .ref q7])), (q1, .inl (cy 0, 6, .inl fh)), (q2, .inl (cy 0, 30, .inl fd)), (q4, .inl (cy 0, 30, .inl fs))], w, xW cy xtb a S762] : List va_W)) (rs := ([[(z0, .inr (12, [.ref b, .ref q1, .ref q2, .ref q3, .ref q4, .ref q5, .ref q6, .ref q7])), (q1, .inl (cy 0, 6, .inl fh)), (q2, .inl (cy 0, 30, .inl fd)), (q4, .inl (cy 0, 30, .inl fs))], w] : List va_W)) (x := xW cy xtb a S762) 2 rfl rfl hPn
      have hD := blk_D2 (bs := ([[(z0, .inr (12, [.ref b, .ref q1, .ref q2, .ref q3, .ref q4, .ref q5, .ref q6, .ref q7])), (q1, .inl (cy 0, 6, .inl fh)), (q2, .inl (cy 0, 30, .inl fd)), (q4, .inl (cy 0, 30, .inl fs))], w, xW cy xtb a S762] : List va_W)) (rs := ([[(z0, .inr (12, [.ref b, .ref q1, .ref q2, .ref q3, .ref q4, .ref q5, .ref q6, .ref q7])), (q1, .inl (cy 0, 6, .inl fh)), (q2, .inl (cy 0, 30, .inl fd)), (q4, .inl (cy 0, 30, .inl fs))], w] : List va_W)) (x := xW cy xtb a S762) 2 rfl rfl hDn
      refine lv_istore (lv' := [(15, .int (ki s9)), (14, .int (ki m9)), (0, .ref b), (1, .ref (a 0)), (2, .ref z0), (3, .ref y), (11, .int (ki (dd : Int))), (13, .int (ki (i : Int)))]) hx hb dL_law_765 hl (by decide) rfl (fun ls hl => ?_)
      refine lv_iload hx hb dL_law_767 (lv_at hl 1 rfl) ?_
      refine kv_if_ge_t (tgt := 776) hx hb (by omega) (by omega) (by omega) dL_law_769 (by decide) ?_
      refine lv_iconst (v := ki 0) hx hb dL_law_776 rfl ?_
      refine lv_aload_n hx hb dL_law_777 rfl (lv_at hl 5 rfl) ?_
      have hPc := blk_P (bs := ([[(z0, .inr (12, [.ref b, .ref q1, .ref q2, .ref q3, .ref q4, .ref q5, .ref q6, .ref q7])), (q1, .inl (cy 0, 6, .inl fh)), (q2, .inl (cy 0, 30, .inl fd)), (q4, .inl (cy 0, 30, .inl fs))], w, xW cy xtb a S762] : List va_W)) (rs := ([[(z0, .inr (12, [.ref b, .ref q1, .ref q2, .ref q3, .ref q4, .ref q5, .ref q6, .ref q7])), (q1, .inl (cy 0, 6, .inl fh)), (q2, .inl (cy 0, 30, .inl fd)), (q4, .inl (cy 0, 30, .inl fs))], xW cy xtb a S762] : List va_W)) (x := w) 1 rfl rfl hP
      have hDc := blk_D (bs := ([[(z0, .inr (12, [.ref b, .ref q1, .ref q2, .ref q3, .ref q4, .ref q5, .ref q6, .ref q7])), (q1, .inl (cy 0, 6, .inl fh)), (q2, .inl (cy 0, 30, .inl fd)), (q4, .inl (cy 0, 30, .inl fs))], w, xW cy xtb a S762] : List va_W)) (rs := ([[(z0, .inr (12, [.ref b, .ref q1, .ref q2, .ref q3, .ref q4, .ref q5, .ref q6, .ref q7])), (q1, .inl (cy 0, 6, .inl fh)), (q2, .inl (cy 0, 30, .inl fd)), (q4, .inl (cy 0, 30, .inl fs))], xW cy xtb a S762] : List va_W)) (x := w) 1 rfl rfl hD
      refine lk_isEmpty hx hb hml hown hts hK hN hZ hS hA hl.1 (Nat.le_of_ble_eq_true (rfl)) (rest := [.int (ki 0)]) (⟨xw_mem 1071 (by decide +kernel) rfl, xw_mem 46 (by decide +kernel) rfl, xw_mem 1068 (by decide +kernel) rfl, by decide +kernel⟩ : xML RL 87 yJx4a65c_isEmpty_aae02 cJx4a65c_isEmpty_aae02 1 (some .boolean) 0) hw9 hPc hDc ⟨by omega, by omega⟩ ⟨by omega, by omega⟩ dL_law_778 (fun  H locs hPn hDn hS => ?_)
      have hP := blk_P2 (bs := ([[(z0, .inr (12, [.ref b, .ref q1, .ref q2, .ref q3, .ref q4, .ref q5, .ref q6, .ref q7])), (q1, .inl (cy 0, 6, .inl fh)), (q2, .inl (cy 0, 30, .inl fd)), (q4, .inl (cy 0, 30, .inl fs))], w, xW cy xtb a S762] : List va_W)) (rs := ([[(z0, .inr (12, [.ref b, .ref q1, .ref q2, .ref q3, .ref q4, .ref q5, .ref q6, .ref q7])), (q1, .inl (cy 0, 6, .inl fh)), (q2, .inl (cy 0, 30, .inl fd)), (q4, .inl (cy 0, 30, .inl fs))], xW cy xtb a S762] : List va_W)) (x := w) 1 rfl rfl hPn
      have hD := blk_D2 (bs := ([[(z0, .inr (12, [.ref b, .ref q1, .ref q2, .ref q3, .ref q4, .ref q5, .ref q6, .ref q7])), (q1, .inl (cy 0, 6, .inl fh)), (q2, .inl (cy 0, 30, .inl fd)), (q4, .inl (cy 0, 30, .inl fs))], w, xW cy xtb a S762] : List va_W)) (rs := ([[(z0, .inr (12, [.ref b, .ref q1, .ref q2, .ref q3, .ref q4, .ref q5, .ref q6, .ref q7])), (q1, .inl (cy 0, 6, .inl fh)), (q2, .inl (cy 0, 30, .inl fd)), (q4, .inl (cy 0, 30, .inl fs))], xW cy xtb a S762] : List va_W)) (x := w) 1 rfl rfl hDn
      rw [show bi ((csI L xs 30).length = 0) = 0 from if_neg (fun q => hnc ((cs_nc hE).mp q))]
      refine kv_icmp_ne_f (tgt := 807) hx hb (by omega) (by omega) (by omega) (by omega) (by omega) dL_law_781 (by decide) ?_
      refine lv_iload hx hb dL_law_784 (lv_at hl 1 rfl) ?_
      refine kv_if_ge_t (tgt := 793) hx hb (by omega) (by omega) (by omega) dL_law_786 (by decide) ?_
      refine lv_iconst (v := ki 0) hx hb dL_law_793 rfl ?_
      refine lv_iload hx hb dL_law_794 (lv_at hl 0 rfl) ?_
      refine kv_if_ge_t (tgt := 803) hx hb (by omega) (by omega) (by omega) dL_law_796 (by decide) ?_
      refine lv_iconst (v := ki 0) hx hb dL_law_803 rfl ?_
      refine kv_icmp_eq_t (tgt := 809) hx hb (by omega) (by omega) (by omega) (by omega) (by omega) dL_law_804 (by decide) ?_
      refine lv_iload hx hb dL_law_809 (lv_at hl 1 rfl) ?_
      refine kv_if_ge_t (tgt := 817) hx hb (by omega) (by omega) (by omega) dL_law_811 (by decide) ?_
      refine lv_iload hx hb dL_law_817 (lv_at hl 0 rfl) ?_
      have hfb := x_bc (S := S762) (s := s9) (by omega) (by omega)
      rw [hps] at hfb
      have hPc := blk_P (bs := ([[(z0, .inr (12, [.ref b, .ref q1, .ref q2, .ref q3, .ref q4, .ref q5, .ref q6, .ref q7])), (q1, .inl (cy 0, 6, .inl fh)), (q2, .inl (cy 0, 30, .inl fd)), (q4, .inl (cy 0, 30, .inl fs))], w, xW cy xtb a S762] : List va_W)) (rs := ([[(z0, .inr (12, [.ref b, .ref q1, .ref q2, .ref q3, .ref q4, .ref q5, .ref q6, .ref q7])), (q1, .inl (cy 0, 6, .inl fh)), (q2, .inl (cy 0, 30, .inl fd)), (q4, .inl (cy 0, 30, .inl fs))], w] : List va_W)) (x := xW cy xtb a S762) 2 rfl rfl hP
      have hDc := blk_D (bs := ([[(z0, .inr (12, [.ref b, .ref q1, .ref q2, .ref q3, .ref q4, .ref q5, .ref q6, .ref q7])), (q1, .inl (cy 0, 6, .inl fh)), (q2, .inl (cy 0, 30, .inl fd)), (q4, .inl (cy 0, 30, .inl fs))], w, xW cy xtb a S762] : List va_W)) (rs := ([[(z0, .inr (12, [.ref b, .ref q1, .ref q2, .ref q3, .ref q4, .ref q5, .ref q6, .ref q7])), (q1, .inl (cy 0, 6, .inl fh)), (q2, .inl (cy 0, 30, .inl fd)), (q4, .inl (cy 0, 30, .inl fs))], w] : List va_W)) (x := xW cy xtb a S762) 2 rfl rfl hD
      refine lw_si hx hb hml hown hts (K_sub hK) hEx hI hPc hDc hS hA (⟨xw_mem 576 (by decide +kernel) rfl, xw_mem 48 (by decide +kernel) rfl, xw_mem 1057 (by decide +kernel) rfl, by decide +kernel⟩ : xML RL 169 yJ6_bitCount_0f7a4 cJ6_bitCount_0f7a4 1 (some .int) 1) (xw_mem 575 (by decide +kernel) rfl) [.int (ki s9)] (rest := []) (c_J6_bitCount_0f7a4 hI hfb _) ⟨by omega, by omega⟩ ⟨by omega, by omega⟩ rfl hl.1 rfl (Nat.le_of_ble_eq_true (rfl)) dL_law_819 (fun H locs hPn hS => ?_)
      have hDn := hDc
      have hP := blk_P2 (bs := ([[(z0, .inr (12, [.ref b, .ref q1, .ref q2, .ref q3, .ref q4, .ref q5, .ref q6, .ref q7])), (q1, .inl (cy 0, 6, .inl fh)), (q2, .inl (cy 0, 30, .inl fd)), (q4, .inl (cy 0, 30, .inl fs))], w, xW cy xtb a S762] : List va_W)) (rs := ([[(z0, .inr (12, [.ref b, .ref q1, .ref q2, .ref q3, .ref q4, .ref q5, .ref q6, .ref q7])), (q1, .inl (cy 0, 6, .inl fh)), (q2, .inl (cy 0, 30, .inl fd)), (q4, .inl (cy 0, 30, .inl fs))], w] : List va_W)) (x := xW cy xtb a S762) 2 rfl rfl hPn
      have hD := blk_D2 (bs := ([[(z0, .inr (12, [.ref b, .ref q1, .ref q2, .ref q3, .ref q4, .ref q5, .ref q6, .ref q7])), (q1, .inl (cy 0, 6, .inl fh)), (q2, .inl (cy 0, 30, .inl fd)), (q4, .inl (cy 0, 30, .inl fs))], w, xW cy xtb a S762] : List va_W)) (rs := ([[(z0, .inr (12, [.ref b, .ref q1, .ref q2, .ref q3, .ref q4, .ref q5, .ref q6, .ref q7])), (q1, .inl (cy 0, 6, .inl fh)), (q2, .inl (cy 0, 30, .inl fd)), (q4, .inl (cy 0, 30, .inl fs))], w] : List va_W)) (x := xW cy xtb a S762) 2 rfl rfl hDn
      refine lv_iload hx hb dL_law_822 (lv_at hl 7 rfl) ?_
      refine kv_icmp_ne_f (tgt := 844) hx hb (by omega) (by omega) (by omega) (by omega) (by omega) dL_law_824 (by decide) ?_
      refine lv_iload hx hb dL_law_827 (lv_at hl 7 rfl) ?_
      refine kv_if_ne (tgt := 846) hx hb (by omega) (by omega) dL_law_829 (by decide) (fun hk0 => ?_) (fun hk0 => ?_)
      · refine lv_iconst (v := ki 0) hx hb dL_law_846 rfl ?_
        refine lv_istore (lv' := [(16, .int (ki 0)), (15, .int (ki s9)), (14, .int (ki m9)), (0, .ref b), (1, .ref (a 0)), (2, .ref z0), (3, .ref y), (11, .int (ki (dd : Int))), (13, .int (ki (i : Int)))]) hx hb dL_law_847 hl (by decide) rfl (fun ls hl => ?_)
        refine TU_1 hx hb hml hown hts hK hN hZ hX hbl hbA hNs hEx hA hI hR hL hF hkn ⟨h0s, h1s⟩ hE hh (fun S2 g hB hi H locs ls hl hP hD hS => ?_) 6 0 (by omega) _ _ (BX_8 hB) hi _ _ ls (lv_sub hl [3, 4, 5, 6, 7, 8, 2, 1, 0] rfl) hP hD hS
        refine lv_aload_n hx hb dL_law_891 rfl (lv_at hl 1 rfl) ?_
        refine lv_iload hx hb dL_law_892 (lv_at hl 4 rfl) ?_
        refine lv_iconst (v := ki 1) hx hb dL_law_894 rfl ?_
        obtain ⟨⟨S895, v895⟩, hf895, hq895⟩ := t_stack8 (S := S2) hB (n := dd) (w := 1) (by omega) (by omega) (by omega)
        dsimp only at hq895
        obtain ⟨hv9, hf9, hl9⟩ := hq895
        subst hv9
        have hB := BX_q hB hf9 hl9
        have hi := iX_q hi hf9
        rw [st_1, ← tuV_e, htv] at hf895
        have hPc := blk_P (bs := ([[(z0, .inr (12, [.ref b, .ref q1, .ref q2, .ref q3, .ref q4, .ref q5, .ref q6, .ref q7])), (q1, .inl (cy 0, 6, .inl fh)), (q2, .inl (cy 0, 30, .inl fd)), (q4, .inl (cy 0, 30, .inl fs))], w, xW cy xtb a S2] : List va_W)) (rs := ([[(z0, .inr (12, [.ref b, .ref q1, .ref q2, .ref q3, .ref q4, .ref q5, .ref q6, .ref q7])), (q1, .inl (cy 0, 6, .inl fh)), (q2, .inl (cy 0, 30, .inl fd)), (q4, .inl (cy 0, 30, .inl fs))], w] : List va_W)) (x := xW cy xtb a S2) 2 rfl rfl hP
        have hDc := blk_D (bs := ([[(z0, .inr (12, [.ref b, .ref q1, .ref q2, .ref q3, .ref q4, .ref q5, .ref q6, .ref q7])), (q1, .inl (cy 0, 6, .inl fh)), (q2, .inl (cy 0, 30, .inl fd)), (q4, .inl (cy 0, 30, .inl fs))], w, xW cy xtb a S2] : List va_W)) (rs := ([[(z0, .inr (12, [.ref b, .ref q1, .ref q2, .ref q3, .ref q4, .ref q5, .ref q6, .ref q7])), (q1, .inl (cy 0, 6, .inl fh)), (q2, .inl (cy 0, 30, .inl fd)), (q4, .inl (cy 0, 30, .inl fs))], w] : List va_W)) (x := xW cy xtb a S2) 2 rfl rfl hD
        refine lw_vi hx hb hml hown hts (K_sub hK) hEx hI hPc hDc hS hA (⟨xw_mem 477 (by decide +kernel) rfl, xw_mem 30 (by decide +kernel) rfl, xw_mem 474 (by decide +kernel) rfl, by decide +kernel⟩ : xML RL 84 yX11_stack cX11_stack 4 (some .int) 2) (xw_mem 475 (by decide +kernel) rfl) (xw_mem 476 (by decide +kernel) rfl) (he := rfl) (by decide) rfl [.int (ki (dd : Int)), .int (ki 1)] (rest := []) (c_X11_stack hI hf895 _) ⟨by omega, by omega⟩ ⟨by omega, by omega⟩ rfl hl.1 rfl (Nat.le_of_ble_eq_true (rfl)) dL_law_895 (fun H locs hPn hS => ?_)
        have hDn := xD_st (S' := S895) hDc
        have hP := blk_P2 (bs := ([[(z0, .inr (12, [.ref b, .ref q1, .ref q2, .ref q3, .ref q4, .ref q5, .ref q6, .ref q7])), (q1, .inl (cy 0, 6, .inl fh)), (q2, .inl (cy 0, 30, .inl fd)), (q4, .inl (cy 0, 30, .inl fs))], w, xW cy xtb a S895] : List va_W)) (rs := ([[(z0, .inr (12, [.ref b, .ref q1, .ref q2, .ref q3, .ref q4, .ref q5, .ref q6, .ref q7])), (q1, .inl (cy 0, 6, .inl fh)), (q2, .inl (cy 0, 30, .inl fd)), (q4, .inl (cy 0, 30, .inl fs))], w] : List va_W)) (x := xW cy xtb a S895) 2 rfl rfl hPn
        have hD := blk_D2 (bs := ([[(z0, .inr (12, [.ref b, .ref q1, .ref q2, .ref q3, .ref q4, .ref q5, .ref q6, .ref q7])), (q1, .inl (cy 0, 6, .inl fh)), (q2, .inl (cy 0, 30, .inl fd)), (q4, .inl (cy 0, 30, .inl fs))], w, xW cy xtb a S895] : List va_W)) (rs := ([[(z0, .inr (12, [.ref b, .ref q1, .ref q2, .ref q3, .ref q4, .ref q5, .ref q6, .ref q7])), (q1, .inl (cy 0, 6, .inl fh)), (q2, .inl (cy 0, 30, .inl fd)), (q4, .inl (cy 0, 30, .inl fs))], w] : List va_W)) (x := xW cy xtb a S895) 2 rfl rfl hDn
        refine lv_iload hx hb dL_law_898 (lv_at hl 6 rfl) ?_
        refine kv_icmp_ne_f (tgt := 910) hx hb rfl (by omega) (by omega) (by omega) (by omega) dL_law_900 (by decide) ?_
        refine lv_aload_n hx hb dL_law_903 rfl (lv_at hl 1 rfl) ?_
        obtain ⟨⟨S904, v904⟩, hf904, hq904⟩ := t_back8 (S := S895) hB hi hwf (trF_2 _ _) (trF_10 _ _)
        dsimp only at hq904
        obtain ⟨hv9, hB, hi⟩ := hq904
        subst hv9
        rw [hE.2.2.2] at hf904
        have hPc := blk_P (bs := ([[(z0, .inr (12, [.ref b, .ref q1, .ref q2, .ref q3, .ref q4, .ref q5, .ref q6, .ref q7])), (q1, .inl (cy 0, 6, .inl fh)), (q2, .inl (cy 0, 30, .inl fd)), (q4, .inl (cy 0, 30, .inl fs))], w, xW cy xtb a S895] : List va_W)) (rs := ([[(z0, .inr (12, [.ref b, .ref q1, .ref q2, .ref q3, .ref q4, .ref q5, .ref q6, .ref q7])), (q1, .inl (cy 0, 6, .inl fh)), (q2, .inl (cy 0, 30, .inl fd)), (q4, .inl (cy 0, 30, .inl fs))], w] : List va_W)) (x := xW cy xtb a S895) 2 rfl rfl hP
        have hDc := blk_D (bs := ([[(z0, .inr (12, [.ref b, .ref q1, .ref q2, .ref q3, .ref q4, .ref q5, .ref q6, .ref q7])), (q1, .inl (cy 0, 6, .inl fh)), (q2, .inl (cy 0, 30, .inl fd)), (q4, .inl (cy 0, 30, .inl fs))], w, xW cy xtb a S895] : List va_W)) (rs := ([[(z0, .inr (12, [.ref b, .ref q1, .ref q2, .ref q3, .ref q4, .ref q5, .ref q6, .ref q7])), (q1, .inl (cy 0, 6, .inl fh)), (q2, .inl (cy 0, 30, .inl fd)), (q4, .inl (cy 0, 30, .inl fs))], w] : List va_W)) (x := xW cy xtb a S895) 2 rfl rfl hD
        refine lw_vi hx hb hml hown hts (K_sub hK) hEx hI hPc hDc hS hA (⟨xw_mem 781 (by decide +kernel) rfl, xw_mem 30 (by decide +kernel) rfl, xw_mem 778 (by decide +kernel) rfl, by decide +kernel⟩ : xML RL 114 yX11_back cX11_back 1 (some .int) 0) (xw_mem 779 (by decide +kernel) rfl) (xw_mem 780 (by decide +kernel) rfl) (he := rfl) (by decide) rfl [] (rest := []) (c_X11_back hI hf904 _) ⟨by omega, by omega⟩ ⟨by omega, by omega⟩ rfl hl.1 rfl (Nat.le_of_ble_eq_true (rfl)) dL_law_904 (fun H locs hPn hS => ?_)
        have hDn := xD_st (S' := S904) hDc
        have hP := blk_P2 (bs := ([[(z0, .inr (12, [.ref b, .ref q1, .ref q2, .ref q3, .ref q4, .ref q5, .ref q6, .ref q7])), (q1, .inl (cy 0, 6, .inl fh)), (q2, .inl (cy 0, 30, .inl fd)), (q4, .inl (cy 0, 30, .inl fs))], w, xW cy xtb a S904] : List va_W)) (rs := ([[(z0, .inr (12, [.ref b, .ref q1, .ref q2, .ref q3, .ref q4, .ref q5, .ref q6, .ref q7])), (q1, .inl (cy 0, 6, .inl fh)), (q2, .inl (cy 0, 30, .inl fd)), (q4, .inl (cy 0, 30, .inl fs))], w] : List va_W)) (x := xW cy xtb a S904) 2 rfl rfl hPn
        have hD := blk_D2 (bs := ([[(z0, .inr (12, [.ref b, .ref q1, .ref q2, .ref q3, .ref q4, .ref q5, .ref q6, .ref q7])), (q1, .inl (cy 0, 6, .inl fh)), (q2, .inl (cy 0, 30, .inl fd)), (q4, .inl (cy 0, 30, .inl fs))], w, xW cy xtb a S904] : List va_W)) (rs := ([[(z0, .inr (12, [.ref b, .ref q1, .ref q2, .ref q3, .ref q4, .ref q5, .ref q6, .ref q7])), (q1, .inl (cy 0, 6, .inl fh)), (q2, .inl (cy 0, 30, .inl fd)), (q4, .inl (cy 0, 30, .inl fs))], w] : List va_W)) (x := xW cy xtb a S904) 2 rfl rfl hDn
        refine kv_if_eq_t (tgt := 912) hx hb (by omega) (by omega) (by omega) dL_law_907 (by decide) ?_
        refine lv_iinc (v := ki ((i + 1 : Nat) : Int)) (lv' := [(13, .int (ki ((i + 1 : Nat) : Int))), (0, .ref b), (1, .ref (a 0)), (2, .ref z0), (3, .ref y), (11, .int (ki (dd : Int))), (14, .int (ki m9)), (15, .int (ki s9))]) hx hb dL_law_912 hl (k := 5) rfl ((ki_add _ _).trans (congrArg ki (by omega))) (by decide) rfl (fun ls hl => ?_)
        refine lv_goto (tgt := 739) hx hb dL_law_915 (by decide) ?_
        exact ih (i + 1) (by omega) _ hB hi H _ ls (lv_sub hl [1, 2, 3, 4, 5, 0] rfl) hP hD hS
      · have hi0 : i = 0 := by omega
        have hs0 : s9 = 0 := by
          have q := pc_z s9.toNat (by omega) (by rw [Int.toNat_of_nonneg h0s, hps, hi0]; rfl)
          omega
        refine lv_iload hx hb dL_law_832 (lv_at hl 1 rfl) ?_
        refine lv_aload_n hx hb dL_law_834 rfl (lv_at hl 3 rfl) ?_
        refine lv_iload hx hb dL_law_835 (lv_at hl 6 rfl) ?_
        refine lv_iconst (v := ki 1) hx hb dL_law_837 rfl ?_
        obtain ⟨⟨S838, v838⟩, hf838, hq838⟩ := t_stack (S := S762) hB (n := dd) (w := 1) (by omega) (by omega) (by omega)
        dsimp only at hq838
        obtain ⟨hv9, hf9, hl9⟩ := hq838
        subst hv9
        have hB := BX_q hB hf9 hl9
        have hi := iX_q hi hf9
        rw [st_1, show hhS (daysN gn dd η) = m9 from by rw [← htv, tuV_e, hs0, trF_0]] at hf838
        have hPc := blk_P (bs := ([[(z0, .inr (12, [.ref b, .ref q1, .ref q2, .ref q3, .ref q4, .ref q5, .ref q6, .ref q7])), (q1, .inl (cy 0, 6, .inl fh)), (q2, .inl (cy 0, 30, .inl fd)), (q4, .inl (cy 0, 30, .inl fs))], w, xW cy xtb a S762] : List va_W)) (rs := ([[(z0, .inr (12, [.ref b, .ref q1, .ref q2, .ref q3, .ref q4, .ref q5, .ref q6, .ref q7])), (q1, .inl (cy 0, 6, .inl fh)), (q2, .inl (cy 0, 30, .inl fd)), (q4, .inl (cy 0, 30, .inl fs))], w] : List va_W)) (x := xW cy xtb a S762) 2 rfl rfl hP
        have hDc := blk_D (bs := ([[(z0, .inr (12, [.ref b, .ref q1, .ref q2, .ref q3, .ref q4, .ref q5, .ref q6, .ref q7])), (q1, .inl (cy 0, 6, .inl fh)), (q2, .inl (cy 0, 30, .inl fd)), (q4, .inl (cy 0, 30, .inl fs))], w, xW cy xtb a S762] : List va_W)) (rs := ([[(z0, .inr (12, [.ref b, .ref q1, .ref q2, .ref q3, .ref q4, .ref q5, .ref q6, .ref q7])), (q1, .inl (cy 0, 6, .inl fh)), (q2, .inl (cy 0, 30, .inl fd)), (q4, .inl (cy 0, 30, .inl fs))], w] : List va_W)) (x := xW cy xtb a S762) 2 rfl rfl hD
        refine lw_vi hx hb hml hown hts (K_sub hK) hEx hI hPc hDc hS hA (⟨xw_mem 477 (by decide +kernel) rfl, xw_mem 30 (by decide +kernel) rfl, xw_mem 474 (by decide +kernel) rfl, by decide +kernel⟩ : xML RL 84 yX11_stack cX11_stack 4 (some .int) 2) (xw_mem 475 (by decide +kernel) rfl) (xw_mem 476 (by decide +kernel) rfl) (he := rfl) (by decide) rfl [.int (ki (dd : Int)), .int (ki 1)] (rest := [.int (ki m9)]) (c_X11_stack hI hf838 _) ⟨by omega, by omega⟩ ⟨by omega, by omega⟩ rfl hl.1 rfl (Nat.le_of_ble_eq_true (rfl)) dL_law_838 (fun H locs hPn hS => ?_)
        have hDn := xD_st (S' := S838) hDc
        have hP := blk_P2 (bs := ([[(z0, .inr (12, [.ref b, .ref q1, .ref q2, .ref q3, .ref q4, .ref q5, .ref q6, .ref q7])), (q1, .inl (cy 0, 6, .inl fh)), (q2, .inl (cy 0, 30, .inl fd)), (q4, .inl (cy 0, 30, .inl fs))], w, xW cy xtb a S838] : List va_W)) (rs := ([[(z0, .inr (12, [.ref b, .ref q1, .ref q2, .ref q3, .ref q4, .ref q5, .ref q6, .ref q7])), (q1, .inl (cy 0, 6, .inl fh)), (q2, .inl (cy 0, 30, .inl fd)), (q4, .inl (cy 0, 30, .inl fs))], w] : List va_W)) (x := xW cy xtb a S838) 2 rfl rfl hPn
        have hD := blk_D2 (bs := ([[(z0, .inr (12, [.ref b, .ref q1, .ref q2, .ref q3, .ref q4, .ref q5, .ref q6, .ref q7])), (q1, .inl (cy 0, 6, .inl fh)), (q2, .inl (cy 0, 30, .inl fd)), (q4, .inl (cy 0, 30, .inl fs))], w, xW cy xtb a S838] : List va_W)) (rs := ([[(z0, .inr (12, [.ref b, .ref q1, .ref q2, .ref q3, .ref q4, .ref q5, .ref q6, .ref q7])), (q1, .inl (cy 0, 6, .inl fh)), (q2, .inl (cy 0, 30, .inl fd)), (q4, .inl (cy 0, 30, .inl fs))], w] : List va_W)) (x := xW cy xtb a S838) 2 rfl rfl hDn
        refine kv_icmp_eq_t (tgt := 846) hx hb rfl (by omega) (by omega) (by omega) (by omega) dL_law_841 (by decide) ?_
        refine lv_iconst (v := ki 0) hx hb dL_law_846 rfl ?_
        refine lv_istore (lv' := [(16, .int (ki 0)), (15, .int (ki s9)), (14, .int (ki m9)), (0, .ref b), (1, .ref (a 0)), (2, .ref z0), (3, .ref y), (11, .int (ki (dd : Int))), (13, .int (ki (i : Int)))]) hx hb dL_law_847 hl (by decide) rfl (fun ls hl => ?_)
        refine TU_1 hx hb hml hown hts hK hN hZ hX hbl hbA hNs hEx hA hI hR hL hF hkn ⟨h0s, h1s⟩ hE hh (fun S2 g hB hi H locs ls hl hP hD hS => ?_) 6 0 (by omega) _ _ (BX_8 hB) hi _ _ ls (lv_sub hl [3, 4, 5, 6, 7, 8, 2, 1, 0] rfl) hP hD hS
        refine lv_aload_n hx hb dL_law_891 rfl (lv_at hl 1 rfl) ?_
        refine lv_iload hx hb dL_law_892 (lv_at hl 4 rfl) ?_
        refine lv_iconst (v := ki 1) hx hb dL_law_894 rfl ?_
        obtain ⟨⟨S895, v895⟩, hf895, hq895⟩ := t_stack8 (S := S2) hB (n := dd) (w := 1) (by omega) (by omega) (by omega)
        dsimp only at hq895
        obtain ⟨hv9, hf9, hl9⟩ := hq895
        subst hv9
        have hB := BX_q hB hf9 hl9
        have hi := iX_q hi hf9
        rw [st_1, ← tuV_e, htv] at hf895
        have hPc := blk_P (bs := ([[(z0, .inr (12, [.ref b, .ref q1, .ref q2, .ref q3, .ref q4, .ref q5, .ref q6, .ref q7])), (q1, .inl (cy 0, 6, .inl fh)), (q2, .inl (cy 0, 30, .inl fd)), (q4, .inl (cy 0, 30, .inl fs))], w, xW cy xtb a S2] : List va_W)) (rs := ([[(z0, .inr (12, [.ref b, .ref q1, .ref q2, .ref q3, .ref q4, .ref q5, .ref q6, .ref q7])), (q1, .inl (cy 0, 6, .inl fh)), (q2, .inl (cy 0, 30, .inl fd)), (q4, .inl (cy 0, 30, .inl fs))], w] : List va_W)) (x := xW cy xtb a S2) 2 rfl rfl hP
        have hDc := blk_D (bs := ([[(z0, .inr (12, [.ref b, .ref q1, .ref q2, .ref q3, .ref q4, .ref q5, .ref q6, .ref q7])), (q1, .inl (cy 0, 6, .inl fh)), (q2, .inl (cy 0, 30, .inl fd)), (q4, .inl (cy 0, 30, .inl fs))], w, xW cy xtb a S2] : List va_W)) (rs := ([[(z0, .inr (12, [.ref b, .ref q1, .ref q2, .ref q3, .ref q4, .ref q5, .ref q6, .ref q7])), (q1, .inl (cy 0, 6, .inl fh)), (q2, .inl (cy 0, 30, .inl fd)), (q4, .inl (cy 0, 30, .inl fs))], w] : List va_W)) (x := xW cy xtb a S2) 2 rfl rfl hD
        refine lw_vi hx hb hml hown hts (K_sub hK) hEx hI hPc hDc hS hA (⟨xw_mem 477 (by decide +kernel) rfl, xw_mem 30 (by decide +kernel) rfl, xw_mem 474 (by decide +kernel) rfl, by decide +kernel⟩ : xML RL 84 yX11_stack cX11_stack 4 (some .int) 2) (xw_mem 475 (by decide +kernel) rfl) (xw_mem 476 (by decide +kernel) rfl) (he := rfl) (by decide) rfl [.int (ki (dd : Int)), .int (ki 1)] (rest := []) (c_X11_stack hI hf895 _) ⟨by omega, by omega⟩ ⟨by omega, by omega⟩ rfl hl.1 rfl (Nat.le_of_ble_eq_true (rfl)) dL_law_895 (fun H locs hPn hS => ?_)
        have hDn := xD_st (S' := S895) hDc
        have hP := blk_P2 (bs := ([[(z0, .inr (12, [.ref b, .ref q1, .ref q2, .ref q3, .ref q4, .ref q5, .ref q6, .ref q7])), (q1, .inl (cy 0, 6, .inl fh)), (q2, .inl (cy 0, 30, .inl fd)), (q4, .inl (cy 0, 30, .inl fs))], w, xW cy xtb a S895] : List va_W)) (rs := ([[(z0, .inr (12, [.ref b, .ref q1, .ref q2, .ref q3, .ref q4, .ref q5, .ref q6, .ref q7])), (q1, .inl (cy 0, 6, .inl fh)), (q2, .inl (cy 0, 30, .inl fd)), (q4, .inl (cy 0, 30, .inl fs))], w] : List va_W)) (x := xW cy xtb a S895) 2 rfl rfl hPn
        have hD := blk_D2 (bs := ([[(z0, .inr (12, [.ref b, .ref q1, .ref q2, .ref q3, .ref q4, .ref q5, .ref q6, .ref q7])), (q1, .inl (cy 0, 6, .inl fh)), (q2, .inl (cy 0, 30, .inl fd)), (q4, .inl (cy 0, 30, .inl fs))], w, xW cy xtb a S895] : List va_W)) (rs := ([[(z0, .inr (12, [.ref b, .ref q1, .ref q2, .ref q3, .ref q4, .ref q5, .ref q6, .ref q7])), (q1, .inl (cy 0, 6, .inl fh)), (q2, .inl (cy 0, 30, .inl fd)), (q4, .inl (cy 0, 30, .inl fs))], w] : List va_W)) (x := xW cy xtb a S895) 2 rfl rfl hDn
        refine lv_iload hx hb dL_law_898 (lv_at hl 6 rfl) ?_
        refine kv_icmp_ne_f (tgt := 910) hx hb rfl (by omega) (by omega) (by omega) (by omega) dL_law_900 (by decide) ?_
        refine lv_aload_n hx hb dL_law_903 rfl (lv_at hl 1 rfl) ?_
        obtain ⟨⟨S904, v904⟩, hf904, hq904⟩ := t_back8 (S := S895) hB hi hwf (trF_2 _ _) (trF_10 _ _)
        dsimp only at hq904
        obtain ⟨hv9, hB, hi⟩ := hq904
        subst hv9
        rw [hE.2.2.2] at hf904
        have hPc := blk_P (bs := ([[(z0, .inr (12, [.ref b, .ref q1, .ref q2, .ref q3, .ref q4, .ref q5, .ref q6, .ref q7])), (q1, .inl (cy 0, 6, .inl fh)), (q2, .inl (cy 0, 30, .inl fd)), (q4, .inl (cy 0, 30, .inl fs))], w, xW cy xtb a S895] : List va_W)) (rs := ([[(z0, .inr (12, [.ref b, .ref q1, .ref q2, .ref q3, .ref q4, .ref q5, .ref q6, .ref q7])), (q1, .inl (cy 0, 6, .inl fh)), (q2, .inl (cy 0, 30, .inl fd)), (q4, .inl (cy 0, 30, .inl fs))], w] : List va_W)) (x := xW cy xtb a S895) 2 rfl rfl hP
        have hDc := blk_D (bs := ([[(z0, .inr (12, [.ref b, .ref q1, .ref q2, .ref q3, .ref q4, .ref q5, .ref q6, .ref q7])), (q1, .inl (cy 0, 6, .inl fh)), (q2, .inl (cy 0, 30, .inl fd)), (q4, .inl (cy 0, 30, .inl fs))], w, xW cy xtb a S895] : List va_W)) (rs := ([[(z0, .inr (12, [.ref b, .ref q1, .ref q2, .ref q3, .ref q4, .ref q5, .ref q6, .ref q7])), (q1, .inl (cy 0, 6, .inl fh)), (q2, .inl (cy 0, 30, .inl fd)), (q4, .inl (cy 0, 30, .inl fs))], w] : List va_W)) (x := xW cy xtb a S895) 2 rfl rfl hD
        refine lw_vi hx hb hml hown hts (K_sub hK) hEx hI hPc hDc hS hA (⟨xw_mem 781 (by decide +kernel) rfl, xw_mem 30 (by decide +kernel) rfl, xw_mem 778 (by decide +kernel) rfl, by decide +kernel⟩ : xML RL 114 yX11_back cX11_back 1 (some .int) 0) (xw_mem 779 (by decide +kernel) rfl) (xw_mem 780 (by decide +kernel) rfl) (he := rfl) (by decide) rfl [] (rest := []) (c_X11_back hI hf904 _) ⟨by omega, by omega⟩ ⟨by omega, by omega⟩ rfl hl.1 rfl (Nat.le_of_ble_eq_true (rfl)) dL_law_904 (fun H locs hPn hS => ?_)
        have hDn := xD_st (S' := S904) hDc
        have hP := blk_P2 (bs := ([[(z0, .inr (12, [.ref b, .ref q1, .ref q2, .ref q3, .ref q4, .ref q5, .ref q6, .ref q7])), (q1, .inl (cy 0, 6, .inl fh)), (q2, .inl (cy 0, 30, .inl fd)), (q4, .inl (cy 0, 30, .inl fs))], w, xW cy xtb a S904] : List va_W)) (rs := ([[(z0, .inr (12, [.ref b, .ref q1, .ref q2, .ref q3, .ref q4, .ref q5, .ref q6, .ref q7])), (q1, .inl (cy 0, 6, .inl fh)), (q2, .inl (cy 0, 30, .inl fd)), (q4, .inl (cy 0, 30, .inl fs))], w] : List va_W)) (x := xW cy xtb a S904) 2 rfl rfl hPn
        have hD := blk_D2 (bs := ([[(z0, .inr (12, [.ref b, .ref q1, .ref q2, .ref q3, .ref q4, .ref q5, .ref q6, .ref q7])), (q1, .inl (cy 0, 6, .inl fh)), (q2, .inl (cy 0, 30, .inl fd)), (q4, .inl (cy 0, 30, .inl fs))], w, xW cy xtb a S904] : List va_W)) (rs := ([[(z0, .inr (12, [.ref b, .ref q1, .ref q2, .ref q3, .ref q4, .ref q5, .ref q6, .ref q7])), (q1, .inl (cy 0, 6, .inl fh)), (q2, .inl (cy 0, 30, .inl fd)), (q4, .inl (cy 0, 30, .inl fs))], w] : List va_W)) (x := xW cy xtb a S904) 2 rfl rfl hDn
        refine kv_if_eq_t (tgt := 912) hx hb (by omega) (by omega) (by omega) dL_law_907 (by decide) ?_
        refine lv_iinc (v := ki ((i + 1 : Nat) : Int)) (lv' := [(13, .int (ki ((i + 1 : Nat) : Int))), (0, .ref b), (1, .ref (a 0)), (2, .ref z0), (3, .ref y), (11, .int (ki (dd : Int))), (14, .int (ki m9)), (15, .int (ki s9))]) hx hb dL_law_912 hl (k := 5) rfl ((ki_add _ _).trans (congrArg ki (by omega))) (by decide) rfl (fun ls hl => ?_)
        refine lv_goto (tgt := 739) hx hb dL_law_915 (by decide) ?_
        exact ih (i + 1) (by omega) _ hB hi H _ ls (lv_sub hl [1, 2, 3, 4, 5, 0] rfl) hP hD hS
end LAW
