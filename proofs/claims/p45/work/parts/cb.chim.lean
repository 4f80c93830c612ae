/-! part cb: the law asks the chimneys (made by wip/p45/gen_cb.py) -/
section LAW
variable {l : Launch} {D : va_G} {cy : Nat → ClassId} {mi zE zc : Nat} {ad z a : Nat → Nat} {b L : Nat} {xs : Nat → Int32}
variable {p : Program} {e : Env} {R : Room} {s : State} {m : MethodId} {args : Array Value} {below : List Frame} {meth : Method} {c : Code} {Q : State → Prop} {A : Nat → Prop}
variable {z0 q1 q2 q3 q4 q5 q6 q7 y : Nat} {fh fd fs : Nat → Int32} {w : va_W} {gn : (Int → Int) → Int} {η : Hy} {S : xSt} {k n : Nat}
def nF (U : State) : Prop := va_Nw (.fieldLinkNest RL 174 RX12 "high" "[I" RL) U ∧ va_Nw (.fieldLinkNest RL 126 RX12 "damp" "[I" RL) U ∧ va_Nw (.fieldLinkNest RL 130 RX12 "salt" "[I" RL) U
theorem tel_50 {v : Int} (h : η 2 v = 0) : telS v 5 0 (telS v 5 1 η) = η := by
  rw [tel5, tel5]
  funext f
  by_cases e : f = 2
  · subst e
    rw [uh_s, uh_s]
    funext t
    by_cases e2 : t = v
    · subst e2; rw [up_s, h]
    · rw [up_n _ _ e2, up_n _ _ e2]
  · rw [uh_n _ _ e, uh_n _ _ e]
set_option maxHeartbeats 2000000 in
set_option maxRecDepth 20000 in
theorem LW_chim (hx : p.tables.exec = Jvm.exec) (hb : c.code = cL_law) (hml : c.maxLocals = 21) (hown : s.vm.findClass RL = some m.cls) (hts : ∀ w ∈ xTB, w.before args s = true) (hK : va_K D vwCl (xtyL cy) s) (hN : jN mi s) (hZ : jZ zE zc ad A s s.heap) (hX : va_X b L xs s s.heap) (hbl : b < s.heap.size) (hbA : ¬ A b) (hNs : nS s) (hEx : xEx z A s s.heap) (hA : ∀ q, s.heap.size ≤ q → A q) (hI : xI xtb a) (hR : 100 ≤ R.frames ∧ 4000 ≤ R.locals ∧ 600000 ≤ R.cells ∧ 7302250 ≤ R.slots) (hL : L ≤ 1000) (hF : nF s) {d : Nat} (hh : ∀ j : Nat, j < 6 → fh j = ki (hgS L xs j)) (hdm : ∀ j : Nat, j < 30 → fd j = ki (nuS L xs j 0)) (hsl : ∀ j : Nat, j < 30 → fs j = ki (nuS L xs j 3)) (hw9 : isL cy zE ad y (csI L xs 30) w) (hE : bE L xs η) (hB : BX η gn S) (hi : iX η S) (hkn : k ≤ R.cells ∧ n ≤ R.slots) (hd : d ≤ 11) (kk : ∀ (S : xSt) (hB : BX η gn S) (hi : iX η S) (H : Heap) (locs : List Loc) (ls : Array Slot), lv_has ls 21 [(0, .ref b), (1, .ref (a 0)), (2, .ref z0), (3, .ref y)] → va_P D vwCl (List.flatten [[(z0, .inr (12, [.ref b, .ref q1, .ref q2, .ref q3, .ref q4, .ref q5, .ref q6, .ref q7])), (q1, .inl (cy 0, 6, .inl fh)), (q2, .inl (cy 0, 30, .inl fd)), (q4, .inl (cy 0, 30, .inl fs))], w, xW cy xtb a S]) H → va_D A (List.flatten [[(z0, .inr (12, [.ref b, .ref q1, .ref q2, .ref q3, .ref q4, .ref q5, .ref q6, .ref q7])), (q1, .inl (cy 0, 6, .inl fh)), (q2, .inl (cy 0, 30, .inl fd)), (q4, .inl (cy 0, 30, .inl fs))], w, xW cy xtb a S]) → va_S A s.heap H locs → W p l e R s m args below meth c H locs k n Q (F0 m 978 ls [])) {H : Heap} {locs : List Loc} {ls : Array Slot} (hl : lv_has ls 21 [(0, .ref b), (1, .ref (a 0)), (2, .ref z0), (3, .ref y), (11, .int (ki (d : Int)))]) (hP : va_P D vwCl (List.flatten [[(z0, .inr (12, [.ref b, .ref q1, .ref q2, .ref q3, .ref q4, .ref q5, .ref q6, .ref q7])), (q1, .inl (cy 0, 6, .inl fh)), (q2, .inl (cy 0, 30, .inl fd)), (q4, .inl (cy 0, 30, .inl fs))], w, xW cy xtb a S]) H) (hD : va_D A (List.flatten [[(z0, .inr (12, [.ref b, .ref q1, .ref q2, .ref q3, .ref q4, .ref q5, .ref q6, .ref q7])), (q1, .inl (cy 0, 6, .inl fh)), (q2, .inl (cy 0, 30, .inl fd)), (q4, .inl (cy 0, 30, .inl fs))], w, xW cy xtb a S])) (hS : va_S A s.heap H locs) : W p l e R s m args below meth c H locs k n Q (F0 m 918 ls []) := by
  have hck : ((chR gn η d).1 = -2 ∧ (chR gn η d).2 = -2 ∧ _) ∨ (0 ≤ (chR gn η d).1 ∧ (chR gn η d).1 < ((6 : Nat) : Int) ∧ η 2 (chR gn η d).1 = 0 ∧ chV gn η d (chR gn η d).1 = (chR gn η d).2 ∧ 0 ≤ (chR gn η d).2) := ck_0 6
  refine lv_aload_n hx hb dL_law_918 rfl (lv_at hl 1 rfl) ?_
  refine lv_iload hx hb dL_law_919 (lv_at hl 4 rfl) ?_
  refine lv_iconst (v := ki 0) hx hb dL_law_921 rfl ?_
  obtain ⟨⟨S922, v922⟩, hf922, hq922⟩ := t_chimney (S := S) hB (n := d) (w := 0) (by omega) (by omega) (by omega)
  dsimp only at hq922
  obtain ⟨hv9, hf9, hl9⟩ := hq922
  subst hv9
  have hB := BX_q hB hf9 hl9
  have hi := iX_q hi hf9
  have hPc := blk_P (bs := ([[(z0, .inr (12, [.ref b, .ref q1, .ref q2, .ref q3, .ref q4, .ref q5, .ref q6, .ref q7])), (q1, .inl (cy 0, 6, .inl fh)), (q2, .inl (cy 0, 30, .inl fd)), (q4, .inl (cy 0, 30, .inl fs))], w, xW cy xtb a S] : List va_W)) (rs := ([[(z0, .inr (12, [.ref b, .ref q1, .ref q2, .ref q3, .ref q4, .ref q5, .ref q6, .ref q7])), (q1, .inl (cy 0, 6, .inl fh)), (q2, .inl (cy 0, 30, .inl fd)), (q4, .inl (cy 0, 30, .inl fs))], w] : List va_W)) (x := xW cy xtb a S) 2 rfl rfl hP
  have hDc := blk_D (bs := ([[(z0, .inr (12, [.ref b, .ref q1, .ref q2, .ref q3, .ref q4, .ref q5, .ref q6, .ref q7])), (q1, .inl (cy 0, 6, .inl fh)), (q2, .inl (cy 0, 30, .inl fd)), (q4, .inl (cy 0, 30, .inl fs))], w, xW cy xtb a S] : List va_W)) (rs := ([[(z0, .inr (12, [.ref b, .ref q1, .ref q2, .ref q3, .ref q4, .ref q5, .ref q6, .ref q7])), (q1, .inl (cy 0, 6, .inl fh)), (q2, .inl (cy 0, 30, .inl fd)), (q4, .inl (cy 0, 30, .inl fs))], w] : List va_W)) (x := xW cy xtb a S) 2 rfl rfl hD
  refine lw_vi hx hb hml hown hts (K_sub hK) hEx hI hPc hDc hS hA (⟨xw_mem 616 (by decide +kernel) rfl, xw_mem 30 (by decide +kernel) rfl, xw_mem 613 (by decide +kernel) rfl, by decide +kernel⟩ : xML RL 176 yX11_chimney cX11_chimney 3 (some .int) 2) (xw_mem 614 (by decide +kernel) rfl) (xw_mem 615 (by decide +kernel) rfl) (he := rfl) (by decide) rfl [.int (ki (d : Int)), .int (ki 0)] (rest := []) (c_X11_chimney hI hf922 _) ⟨by omega, by omega⟩ ⟨by omega, by omega⟩ rfl hl.1 rfl (Nat.le_of_ble_eq_true (rfl)) dL_law_922 (fun H locs hPn hS => ?_)
  have hDn := xD_st (S' := S922) hDc
  have hP := blk_P2 (bs := ([[(z0, .inr (12, [.ref b, .ref q1, .ref q2, .ref q3, .ref q4, .ref q5, .ref q6, .ref q7])), (q1, .inl (cy 0, 6, .inl fh)), (q2, .inl (cy 0, 30, .inl fd)), (q4, .inl (cy 0, 30, .inl fs))], w, xW cy xtb a S922] : List va_W)) (rs := ([[(z0, .inr (12, [.ref b, .ref q1, .ref q2, .ref q3, .ref q4, .ref q5, .ref q6, .ref q7])), (q1, .inl (cy 0, 6, .inl fh)), (q2, .inl (cy 0, 30, .inl fd)), (q4, .inl (cy 0, 30, .inl fs))], w] : List va_W)) (x := xW cy xtb a S922) 2 rfl rfl hPn
  have hD := blk_D2 (bs := ([[(z0, .inr (12, [.ref b, .ref q1, .ref q2, .ref q3, .ref q4, .ref q5, .ref q6, .ref q7])), (q1, .inl (cy 0, 6, .inl fh)), (q2, .inl (cy 0, 30, .inl fd)), (q4, .inl (cy 0, 30, .inl fs))], w, xW cy xtb a S922] : List va_W)) (rs := ([[(z0, .inr (12, [.ref b, .ref q1, .ref q2, .ref q3, .ref q4, .ref q5, .ref q6, .ref q7])), (q1, .inl (cy 0, 6, .inl fh)), (q2, .inl (cy 0, 30, .inl fd)), (q4, .inl (cy 0, 30, .inl fs))], w] : List va_W)) (x := xW cy xtb a S922) 2 rfl rfl hDn
  refine lv_istore (lv' := [(13, .int (ki ((chR gn η d).1))), (0, .ref b), (1, .ref (a 0)), (2, .ref z0), (3, .ref y), (11, .int (ki (d : Int)))]) hx hb dL_law_925 hl (by decide) rfl (fun ls hl => ?_)
  refine lv_iload hx hb dL_law_927 (lv_at hl 0 rfl) ?_
  refine kv_if_lt (tgt := 978) hx hb (by omega) (by omega) dL_law_929 (by decide) (fun hneg => ?_) (fun hneg => ?_)
  · exact kk S922 hB hi H _ ls (lv_sub hl [1, 2, 3, 4] rfl) hP hD hS
  · have hz9 : η 2 (chR gn η d).1 = 0 := by
      rcases hck with h | h
      · omega
      · exact h.2.2.1
    have hv8 : chV gn η d (chR gn η d).1 = (chR gn η d).2 := by
      rcases hck with h | h
      · omega
      · exact h.2.2.2.1
    have hc2 : 0 ≤ (chR gn η d).2 ∧ (chR gn η d).2 ≤ 99 := by
      rw [← hv8]
      exact ⟨by rcases hck with h | h; omega; rw [hv8]; exact h.2.2.2.2, (hhS_b (wf_days (wf_chm hB.1 _) d)).2⟩
    refine lv_aload_n hx hb dL_law_932 rfl (lv_at hl 2 rfl) ?_
    refine lv_iload hx hb dL_law_933 (lv_at hl 5 rfl) ?_
    refine lv_iconst (v := ki 1) hx hb dL_law_935 rfl ?_
    obtain ⟨⟨S936, v936⟩, hf936, hq936⟩ := t_chimney (S := S922) hB (n := d) (w := 1) (by omega) (by omega) (by omega)
    dsimp only at hq936
    obtain ⟨hv9, hf9, hl9⟩ := hq936
    subst hv9
    have hB := BX_q hB hf9 hl9
    have hi := iX_q hi hf9
    have hPc := blk_P (bs := ([[(z0, .inr (12, [.ref b, .ref q1, .ref q2, .ref q3, .ref q4, .ref q5, .ref q6, .ref q7])), (q1, .inl (cy 0, 6, .inl fh)), (q2, .inl (cy 0, 30, .inl fd)), (q4, .inl (cy 0, 30, .inl fs))], w, xW cy xtb a S922] : List va_W)) (rs := ([[(z0, .inr (12, [.ref b, .ref q1, .ref q2, .ref q3, .ref q4, .ref q5, .ref q6, .ref q7])), (q1, .inl (cy 0, 6, .inl fh)), (q2, .inl (cy 0, 30, .inl fd)), (q4, .inl (cy 0, 30, .inl fs))], w] : List va_W)) (x := xW cy xtb a S922) 2 rfl rfl hP
    have hDc := blk_D (bs := ([[(z0, .inr (12, [.ref b, .ref q1, .ref q2, .ref q3, .ref q4, .ref q5, .ref q6, .ref q7])), (q1, .inl (cy 0, 6, .inl fh)), (q2, .inl (cy 0, 30, .inl fd)), (q4, .inl (cy 0, 30, .inl fs))], w, xW cy xtb a S922] : List va_W)) (rs := ([[(z0, .inr (12, [.ref b, .ref q1, .ref q2, .ref q3, .ref q4, .ref q5, .ref q6, .ref q7])), (q1, .inl (cy 0, 6, .inl fh)), (q2, .inl (cy 0, 30, .inl fd)), (q4, .inl (cy 0, 30, .inl fs))], w] : List va_W)) (x := xW cy xtb a S922) 2 rfl rfl hD
    refine lw_vi hx hb hml hown hts (K_sub hK) hEx hI hPc hDc hS hA (⟨xw_mem 616 (by decide +kernel) rfl, xw_mem 30 (by decide +kernel) rfl, xw_mem 613 (by decide +kernel) rfl, by decide +kernel⟩ : xML RL 176 yX11_chimney cX11_chimney 3 (some .int) 2) (xw_mem 614 (by decide +kernel) rfl) (xw_mem 615 (by decide +kernel) rfl) (he := rfl) (by decide) rfl [.int (ki (d : Int)), .int (ki 1)] (rest := []) (c_X11_chimney hI hf936 _) ⟨by omega, by omega⟩ ⟨by omega, by omega⟩ rfl hl.1 rfl (Nat.le_of_ble_eq_true (rfl)) dL_law_936 (fun H locs hPn hS => ?_)
    have hDn := xD_st (S' := S936) hDc
    have hP := blk_P2 (bs := ([[(z0, .inr (12, [.ref b, .ref q1, .ref q2, .ref q3, .ref q4, .ref q5, .ref q6, .ref q7])), (q1, .inl (cy 0, 6, .inl fh)), (q2, .inl (cy 0, 30, .inl fd)), (q4, .inl (cy 0, 30, .inl fs))], w, xW cy xtb a S936] : List va_W)) (rs := ([[(z0, .inr (12, [.ref b, .ref q1, .ref q2, .ref q3, .ref q4, .ref q5, .ref q6, .ref q7])), (q1, .inl (cy 0, 6, .inl fh)), (q2, .inl (cy 0, 30, .inl fd)), (q4, .inl (cy 0, 30, .inl fs))], w] : List va_W)) (x := xW cy xtb a S936) 2 rfl rfl hPn
    have hD := blk_D2 (bs := ([[(z0, .inr (12, [.ref b, .ref q1, .ref q2, .ref q3, .ref q4, .ref q5, .ref q6, .ref q7])), (q1, .inl (cy 0, 6, .inl fh)), (q2, .inl (cy 0, 30, .inl fd)), (q4, .inl (cy 0, 30, .inl fs))], w, xW cy xtb a S936] : List va_W)) (rs := ([[(z0, .inr (12, [.ref b, .ref q1, .ref q2, .ref q3, .ref q4, .ref q5, .ref q6, .ref q7])), (q1, .inl (cy 0, 6, .inl fh)), (q2, .inl (cy 0, 30, .inl fd)), (q4, .inl (cy 0, 30, .inl fs))], w] : List va_W)) (x := xW cy xtb a S936) 2 rfl rfl hDn
    refine lv_istore (lv' := [(14, .int (ki ((chR gn η d).2))), (13, .int (ki ((chR gn η d).1))), (0, .ref b), (1, .ref (a 0)), (2, .ref z0), (3, .ref y), (11, .int (ki (d : Int)))]) hx hb dL_law_939 hl (by decide) rfl (fun ls hl => ?_)
    refine lv_aload_n hx hb dL_law_941 rfl (lv_at hl 3 rfl) ?_
    refine lv_iload hx hb dL_law_942 (lv_at hl 1 rfl) ?_
    refine lv_iconst (v := ki 5) hx hb dL_law_944 rfl ?_
    refine lv_iconst (v := ki 1) hx hb dL_law_945 rfl ?_
    obtain ⟨⟨S946, v946⟩, hf946, hq946⟩ := t_mend (S := S936) hB (n := (chR gn η d).1) (w := 5) (v := 1) (Or.inr (Or.inl ⟨rfl, by omega, by omega⟩)) (by decide)
    dsimp only at hq946
    obtain ⟨hv9, hB, hf9⟩ := hq946
    subst hv9
    have hi := iX_f hi hf9 (fun k hk => by omega)
    rw [show valW η 5 (chR gn η d).1 = 0 from hz9] at hf946
    have hPc := blk_P (bs := ([[(z0, .inr (12, [.ref b, .ref q1, .ref q2, .ref q3, .ref q4, .ref q5, .ref q6, .ref q7])), (q1, .inl (cy 0, 6, .inl fh)), (q2, .inl (cy 0, 30, .inl fd)), (q4, .inl (cy 0, 30, .inl fs))], w, xW cy xtb a S936] : List va_W)) (rs := ([[(z0, .inr (12, [.ref b, .ref q1, .ref q2, .ref q3, .ref q4, .ref q5, .ref q6, .ref q7])), (q1, .inl (cy 0, 6, .inl fh)), (q2, .inl (cy 0, 30, .inl fd)), (q4, .inl (cy 0, 30, .inl fs))], w] : List va_W)) (x := xW cy xtb a S936) 2 rfl rfl hP
    have hDc := blk_D (bs := ([[(z0, .inr (12, [.ref b, .ref q1, .ref q2, .ref q3, .ref q4, .ref q5, .ref q6, .ref q7])), (q1, .inl (cy 0, 6, .inl fh)), (q2, .inl (cy 0, 30, .inl fd)), (q4, .inl (cy 0, 30, .inl fs))], w, xW cy xtb a S936] : List va_W)) (rs := ([[(z0, .inr (12, [.ref b, .ref q1, .ref q2, .ref q3, .ref q4, .ref q5, .ref q6, .ref q7])), (q1, .inl (cy 0, 6, .inl fh)), (q2, .inl (cy 0, 30, .inl fd)), (q4, .inl (cy 0, 30, .inl fs))], w] : List va_W)) (x := xW cy xtb a S936) 2 rfl rfl hD
    refine lw_vi hx hb hml hown hts (K_sub hK) hEx hI hPc hDc hS hA (⟨xw_mem 438 (by decide +kernel) rfl, xw_mem 30 (by decide +kernel) rfl, xw_mem 435 (by decide +kernel) rfl, by decide +kernel⟩ : xML RL 35 yX11_mend cX11_mend 5 (some .int) 3) (xw_mem 436 (by decide +kernel) rfl) (xw_mem 437 (by decide +kernel) rfl) (he := rfl) (by decide) rfl [.int (ki ((chR gn η d).1)), .int (ki 5), .int (ki 1)] (rest := []) (c_X11_mend hI hf946 _) ⟨by omega, by omega⟩ ⟨by omega, by omega⟩ rfl hl.1 rfl (Nat.le_of_ble_eq_true (rfl)) dL_law_946 (fun H locs hPn hS => ?_)
    have hDn := xD_st (S' := S946) hDc
    have hP := blk_P2 (bs := ([[(z0, .inr (12, [.ref b, .ref q1, .ref q2, .ref q3, .ref q4, .ref q5, .ref q6, .ref q7])), (q1, .inl (cy 0, 6, .inl fh)), (q2, .inl (cy 0, 30, .inl fd)), (q4, .inl (cy 0, 30, .inl fs))], w, xW cy xtb a S946] : List va_W)) (rs := ([[(z0, .inr (12, [.ref b, .ref q1, .ref q2, .ref q3, .ref q4, .ref q5, .ref q6, .ref q7])), (q1, .inl (cy 0, 6, .inl fh)), (q2, .inl (cy 0, 30, .inl fd)), (q4, .inl (cy 0, 30, .inl fs))], w] : List va_W)) (x := xW cy xtb a S946) 2 rfl rfl hPn
    have hD := blk_D2 (bs := ([[(z0, .inr (12, [.ref b, .ref q1, .ref q2, .ref q3, .ref q4, .ref q5, .ref q6, .ref q7])), (q1, .inl (cy 0, 6, .inl fh)), (q2, .inl (cy 0, 30, .inl fd)), (q4, .inl (cy 0, 30, .inl fs))], w, xW cy xtb a S946] : List va_W)) (rs := ([[(z0, .inr (12, [.ref b, .ref q1, .ref q2, .ref q3, .ref q4, .ref q5, .ref q6, .ref q7])), (q1, .inl (cy 0, 6, .inl fh)), (q2, .inl (cy 0, 30, .inl fd)), (q4, .inl (cy 0, 30, .inl fs))], w] : List va_W)) (x := xW cy xtb a S946) 2 rfl rfl hDn
    refine kv_if_ne_f (tgt := 976) hx hb (by omega) (by omega) (by omega) dL_law_949 (by decide) ?_
    refine lv_aload_n hx hb dL_law_952 rfl (lv_at hl 3 rfl) ?_
    refine lv_iload hx hb dL_law_953 (lv_at hl 6 rfl) ?_
    refine lv_iconst (v := ki 1) hx hb dL_law_955 rfl ?_
    obtain ⟨⟨S956, v956⟩, hf956, hq956⟩ := t_stack (S := S946) hB (n := d) (w := 1) (by omega) (by omega) (by omega)
    dsimp only at hq956
    obtain ⟨hv9, hf9, hl9⟩ := hq956
    subst hv9
    have hB := BX_q hB hf9 hl9
    have hi := iX_q hi hf9
    rw [show stS (daysN gn d (telS (chR gn η d).1 5 1 η)) 1 = (chR gn η d).2 from hv8] at hf956
    have hPc := blk_P (bs := ([[(z0, .inr (12, [.ref b, .ref q1, .ref q2, .ref q3, .ref q4, .ref q5, .ref q6, .ref q7])), (q1, .inl (cy 0, 6, .inl fh)), (q2, .inl (cy 0, 30, .inl fd)), (q4, .inl (cy 0, 30, .inl fs))], w, xW cy xtb a S946] : List va_W)) (rs := ([[(z0, .inr (12, [.ref b, .ref q1, .ref q2, .ref q3, .ref q4, .ref q5, .ref q6, .ref q7])), (q1, .inl (cy 0, 6, .inl fh)), (q2, .inl (cy 0, 30, .inl fd)), (q4, .inl (cy 0, 30, .inl fs))], w] : List va_W)) (x := xW cy xtb a S946) 2 rfl rfl hP
    have hDc := blk_D (bs := ([[(z0, .inr (12, [.ref b, .ref q1, .ref q2, .ref q3, .ref q4, .ref q5, .ref q6, .ref q7])), (q1, .inl (cy 0, 6, .inl fh)), (q2, .inl (cy 0, 30, .inl fd)), (q4, .inl (cy 0, 30, .inl fs))], w, xW cy xtb a S946] : List va_W)) (rs := ([[(z0, .inr (12, [.ref b, .ref q1, .ref q2, .ref q3, .ref q4, .ref q5, .ref q6, .ref q7])), (q1, .inl (cy 0, 6, .inl fh)), (q2, .inl (cy 0, 30, .inl fd)), (q4, .inl (cy 0, 30, .inl fs))], w] : List va_W)) (x := xW cy xtb a S946) 2 rfl rfl hD
    refine lw_vi hx hb hml hown hts (K_sub hK) hEx hI hPc hDc hS hA (⟨xw_mem 477 (by decide +kernel) rfl, xw_mem 30 (by decide +kernel) rfl, xw_mem 474 (by decide +kernel) rfl, by decide +kernel⟩ : xML RL 84 yX11_stack cX11_stack 4 (some .int) 2) (xw_mem 475 (by decide +kernel) rfl) (xw_mem 476 (by decide +kernel) rfl) (he := rfl) (by decide) rfl [.int (ki (d : Int)), .int (ki 1)] (rest := []) (c_X11_stack hI hf956 _) ⟨by omega, by omega⟩ ⟨by omega, by omega⟩ rfl hl.1 rfl (Nat.le_of_ble_eq_true (rfl)) dL_law_956 (fun H locs hPn hS => ?_)
    have hDn := xD_st (S' := S956) hDc
    have hP := blk_P2 (bs := ([[(z0, .inr (12, [.ref b, .ref q1, .ref q2, .ref q3, .ref q4, .ref q5, .ref q6, .ref q7])), (q1, .inl (cy 0, 6, .inl fh)), (q2, .inl (cy 0, 30, .inl fd)), (q4, .inl (cy 0, 30, .inl fs))], w, xW cy xtb a S956] : List va_W)) (rs := ([[(z0, .inr (12, [.ref b, .ref q1, .ref q2, .ref q3, .ref q4, .ref q5, .ref q6, .ref q7])), (q1, .inl (cy 0, 6, .inl fh)), (q2, .inl (cy 0, 30, .inl fd)), (q4, .inl (cy 0, 30, .inl fs))], w] : List va_W)) (x := xW cy xtb a S956) 2 rfl rfl hPn
    have hD := blk_D2 (bs := ([[(z0, .inr (12, [.ref b, .ref q1, .ref q2, .ref q3, .ref q4, .ref q5, .ref q6, .ref q7])), (q1, .inl (cy 0, 6, .inl fh)), (q2, .inl (cy 0, 30, .inl fd)), (q4, .inl (cy 0, 30, .inl fs))], w, xW cy xtb a S956] : List va_W)) (rs := ([[(z0, .inr (12, [.ref b, .ref q1, .ref q2, .ref q3, .ref q4, .ref q5, .ref q6, .ref q7])), (q1, .inl (cy 0, 6, .inl fh)), (q2, .inl (cy 0, 30, .inl fd)), (q4, .inl (cy 0, 30, .inl fs))], w] : List va_W)) (x := xW cy xtb a S956) 2 rfl rfl hDn
    refine lv_iload hx hb dL_law_959 (lv_at hl 0 rfl) ?_
    refine kv_icmp_ne_f (tgt := 976) hx hb rfl (by omega) (by omega) (by omega) (by omega) dL_law_961 (by decide) ?_
    refine lv_aload_n hx hb dL_law_964 rfl (lv_at hl 3 rfl) ?_
    refine lv_iload hx hb dL_law_965 (lv_at hl 1 rfl) ?_
    refine lv_iconst (v := ki 5) hx hb dL_law_967 rfl ?_
    refine lv_iconst (v := ki 0) hx hb dL_law_968 rfl ?_
    obtain ⟨⟨S969, v969⟩, hf969, hq969⟩ := t_mend (S := S956) hB (n := (chR gn η d).1) (w := 5) (v := 0) (Or.inr (Or.inl ⟨rfl, by omega, by omega⟩)) (by decide)
    dsimp only at hq969
    obtain ⟨hv9, hB, hf9⟩ := hq969
    subst hv9
    have hi := iX_f hi hf9 (fun k hk => by omega)
    rw [show valW (telS (chR gn η d).1 5 1 η) 5 (chR gn η d).1 = 1 from up_s _ _ _] at hf969
    rw [tel_50 hz9] at hB
    have hPc := blk_P (bs := ([[(z0, .inr (12, [.ref b, .ref q1, .ref q2, .ref q3, .ref q4, .ref q5, .ref q6, .ref q7])), (q1, .inl (cy 0, 6, .inl fh)), (q2, .inl (cy 0, 30, .inl fd)), (q4, .inl (cy 0, 30, .inl fs))], w, xW cy xtb a S956] : List va_W)) (rs := ([[(z0, .inr (12, [.ref b, .ref q1, .ref q2, .ref q3, .ref q4, .ref q5, .ref q6, .ref q7])), (q1, .inl (cy 0, 6, .inl fh)), (q2, .inl (cy 0, 30, .inl fd)), (q4, .inl (cy 0, 30, .inl fs))], w] : List va_W)) (x := xW cy xtb a S956) 2 rfl rfl hP
    have hDc := blk_D (bs := ([[(z0, .inr (12, [.ref b, .ref q1, .ref q2, .ref q3, .ref q4, .ref q5, .ref q6, .ref q7])), (q1, .inl (cy 0, 6, .inl fh)), (q2, .inl (cy 0, 30, .inl fd)), (q4, .inl (cy 0, 30, .inl fs))], w, xW cy xtb a S956] : List va_W)) (rs := ([[(z0, .inr (12, [.ref b, .ref q1, .ref q2, .ref q3, .ref q4, .ref q5, .ref q6, .ref q7])), (q1, .inl (cy 0, 6, .inl fh)), (q2, .inl (cy 0, 30, .inl fd)), (q4, .inl (cy 0, 30, .inl fs))], w] : List va_W)) (x := xW cy xtb a S956) 2 rfl rfl hD
    refine lw_vi hx hb hml hown hts (K_sub hK) hEx hI hPc hDc hS hA (⟨xw_mem 438 (by decide +kernel) rfl, xw_mem 30 (by decide +kernel) rfl, xw_mem 435 (by decide +kernel) rfl, by decide +kernel⟩ : xML RL 35 yX11_mend cX11_mend 5 (some .int) 3) (xw_mem 436 (by decide +kernel) rfl) (xw_mem 437 (by decide +kernel) rfl) (he := rfl) (by decide) rfl [.int (ki ((chR gn η d).1)), .int (ki 5), .int (ki 0)] (rest := []) (c_X11_mend hI hf969 _) ⟨by omega, by omega⟩ ⟨by omega, by omega⟩ rfl hl.1 rfl (Nat.le_of_ble_eq_true (rfl)) dL_law_969 (fun H locs hPn hS => ?_)
    have hDn := xD_st (S' := S969) hDc
    have hP := blk_P2 (bs := ([[(z0, .inr (12, [.ref b, .ref q1, .ref q2, .ref q3, .ref q4, .ref q5, .ref q6, .ref q7])), (q1, .inl (cy 0, 6, .inl fh)), (q2, .inl (cy 0, 30, .inl fd)), (q4, .inl (cy 0, 30, .inl fs))], w, xW cy xtb a S969] : List va_W)) (rs := ([[(z0, .inr (12, [.ref b, .ref q1, .ref q2, .ref q3, .ref q4, .ref q5, .ref q6, .ref q7])), (q1, .inl (cy 0, 6, .inl fh)), (q2, .inl (cy 0, 30, .inl fd)), (q4, .inl (cy 0, 30, .inl fs))], w] : List va_W)) (x := xW cy xtb a S969) 2 rfl rfl hPn
    have hD := blk_D2 (bs := ([[(z0, .inr (12, [.ref b, .ref q1, .ref q2, .ref q3, .ref q4, .ref q5, .ref q6, .ref q7])), (q1, .inl (cy 0, 6, .inl fh)), (q2, .inl (cy 0, 30, .inl fd)), (q4, .inl (cy 0, 30, .inl fs))], w, xW cy xtb a S969] : List va_W)) (rs := ([[(z0, .inr (12, [.ref b, .ref q1, .ref q2, .ref q3, .ref q4, .ref q5, .ref q6, .ref q7])), (q1, .inl (cy 0, 6, .inl fh)), (q2, .inl (cy 0, 30, .inl fd)), (q4, .inl (cy 0, 30, .inl fs))], w] : List va_W)) (x := xW cy xtb a S969) 2 rfl rfl hDn
    refine lv_iconst (v := ki 1) hx hb dL_law_972 rfl ?_
    refine kv_icmp_eq_t (tgt := 978) hx hb (by omega) (by omega) (by omega) (by omega) (by omega) dL_law_973 (by decide) ?_
    exact kk S969 hB hi H _ ls (lv_sub hl [2, 3, 4, 5] rfl) hP hD hS
end LAW
