/-! part cj: the law asks nine days (made by wip/p45/gen_cj.py) -/
section LAW
variable {l : Launch} {D : va_G} {cy : Nat → ClassId} {mi zE zc : Nat} {ad z a : Nat → Nat} {b L : Nat} {xs : Nat → Int32}
variable {p : Program} {e : Env} {R : Room} {s : State} {m : MethodId} {args : Array Value} {below : List Frame} {meth : Method} {c : Code} {Q : State → Prop} {A : Nat → Prop}
variable {z0 q1 q2 q3 q4 q5 q6 q7 y : Nat} {fh fd fs : Nat → Int32} {w : va_W} {gn : (Int → Int) → Int} {η : Hy} {S : xSt} {k n : Nat}
def AMW (cA c0 : ClassId) (q : Nat) (r : Nat → Nat) (F : Nat → Nat → Int32) : va_W := (q, .inl (cA, 9, .inr (.inr (.inr (.inr (fun i => if i < 9 then some (r i) else none)))))) :: (List.range 9).map (fun i => (r i, .inl (c0, 4, .inl (F i))))
theorem AMW_at {cA c0 : ClassId} {q : Nat} {r : Nat → Nat} {F : Nat → Nat → Int32} {wr : va_W} {i : Nat} (h : i < 9) : (wr ++ AMW cA c0 q r F)[wr.length + (i + 1)]? = some (r i, .inl (c0, 4, .inl (F i))) := by
  rw [List.getElem?_append_right (by omega), Nat.add_sub_cancel_left]
  unfold AMW
  rw [List.getElem?_cons_succ, List.getElem?_map, List.getElem?_range h]
  rfl
theorem AMW_set {cA c0 : ClassId} {q : Nat} {r : Nat → Nat} {F : Nat → Nat → Int32} {wr : va_W} {i : Nat} (h : i < 9) (f1 : Nat → Int32) : (wr ++ AMW cA c0 q r F).set (wr.length + (i + 1)) (r i, .inl (c0, 4, .inl f1)) = wr ++ AMW cA c0 q r (fun k => if k = i then f1 else F k) := by
  rw [List.set_append_right _ _ (by omega), Nat.add_sub_cancel_left]
  congr 1
  unfold AMW
  rw [List.set_cons_succ]
  congr 1
  apply List.ext_getElem?
  intro j
  rw [List.getElem?_set]
  by_cases e : i = j
  · subst e
    rw [if_pos rfl, List.getElem?_map, List.getElem?_range h]
    simp [h]
  · rw [if_neg e, List.getElem?_map, List.getElem?_map]
    by_cases hj : j < 9
    · rw [List.getElem?_range hj]
      simp [Ne.symm e, show ¬ j = i from fun q => e q.symm]
    · rw [List.getElem?_eq_none (by simp; omega)]
      rfl
variable {H H0 : Heap} {locs : List Loc} {cc : ByteArray} {pc : Nat} {ls : Array Slot} {rest : List Value} {cl : List vw_C} {tys : List (ClassId × FieldType)} {cells slots : Nat} {cA c0 : ClassId} {qm : Nat} {rm : Nat → Nat} {F : Nat → Nat → Int32} {wr : va_W}
theorem am_row (hx : p.tables.exec = Jvm.exec) (hb : c.code = cc) (hK : va_K D cl tys s) (t0 : Nat) (ht : tys[t0]? = some (cA, .array .int)) (hP : va_P D cl (wr ++ AMW cA c0 qm rm F) H) {i : Nat} (hi : i < 9) (hd : decode cc pc = .ok (.aaload, 1)) (kk : W p l e R s m args below meth c H locs cells slots Q (F0 m (pc + 1) ls (.ref (rm i) :: rest))) : W p l e R s m args below meth c H locs cells slots Q (F0 m pc ls (.int (ki (i : Int)) :: .ref qm :: rest)) :=
  kv_aald hx hb hK hP wr.length t0 xat0 ht (by omega) (by omega) (by omega) (show (if ((i : Int)).toNat < 9 then some (rm ((i : Int)).toNat) else none) = some (rm i) from if_pos hi) hd kk
theorem am_get (hx : p.tables.exec = Jvm.exec) (hb : c.code = cc) (hK : va_K D cl tys s) (t0 : Nat) (ht : tys[t0]? = some (c0, .int)) (hP : va_P D cl (wr ++ AMW cA c0 qm rm F) H) {i j : Nat} {v : Int} (hi : i < 9) (hj : j < 4) (hv : F i j = ki v) (hd : decode cc pc = .ok (.iaload, 1)) (kk : W p l e R s m args below meth c H locs cells slots Q (F0 m (pc + 1) ls (.int (ki v) :: rest))) : W p l e R s m args below meth c H locs cells slots Q (F0 m pc ls (.int (ki (j : Int)) :: .ref (rm i) :: rest)) :=
  kv_ald hx hb hK hP (wr.length + (i + 1)) t0 (AMW_at hi) ht (by omega) (by omega) (by omega) hv hd kk
theorem am_put (hx : p.tables.exec = Jvm.exec) (hb : c.code = cc) (hK : va_K D cl tys s) (t0 : Nat) (ht : tys[t0]? = some (c0, .int)) (hP : va_P D cl (wr ++ AMW cA c0 qm rm F) H) (hD : va_D A (wr ++ AMW cA c0 qm rm F)) (hS : va_S A H0 H locs) {i j : Nat} {x : Int32} (hi : i < 9) (hj : j < 4) (hd : decode cc pc = .ok (.iastore, 1)) (kk : ∀ (H1 : Heap) (locs1 : List Loc), va_P D cl (wr ++ AMW cA c0 qm rm (fun k => if k = i then upd (F i) j x else F k)) H1 → va_D A (wr ++ AMW cA c0 qm rm (fun k => if k = i then upd (F i) j x else F k)) → va_S A H0 H1 locs1 → W p l e R s m args below meth c H1 locs1 cells slots Q (F0 m (pc + 1) ls rest)) : W p l e R s m args below meth c H locs cells slots Q (F0 m pc ls (.int x :: .int (ki (j : Int)) :: .ref (rm i) :: rest)) :=
  kv_ast hx hb hK hP hD hS (wr.length + (i + 1)) t0 (AMW_at hi) ht (by omega) (by omega) (by omega) hd (fun H1 locs1 h1 h2 h3 => kk H1 locs1 (by rw [AMW_set hi] at h1; exact h1) (by rw [AMW_set hi] at h2; exact h2) h3)
def askP (gn : (Int → Int) → Int) (η : Hy) (F : Nat → Nat → Int32) (i : Nat) : Prop := ∀ i9 : Nat, i9 < i → ∀ j9 : Nat, j9 < 4 → F i9 j9 = ki (stS (daysN gn i9 η) (j9 : Int))
def rowP (gn : (Int → Int) → Int) (η : Hy) (f : Nat → Int32) (i j : Nat) : Prop := ∀ j9 : Nat, j9 < j → f j9 = ki (stS (daysN gn i η) (j9 : Int))
theorem rowP_s {f : Nat → Int32} {i j : Nat} (h : rowP gn η f i j) : rowP gn η (upd f j (ki (stS (daysN gn i η) (j : Int)))) i (j + 1) := by
  intro j9 hj
  unfold upd
  by_cases e : j9 = j
  · subst e; rw [if_pos rfl]
  · rw [if_neg e]; exact h j9 (by omega)
theorem askP_s {i : Nat} (h : askP gn η F i) (h2 : rowP gn η (F i) i 4) : askP gn η F (i + 1) := by
  intro i9 hi j9 hj
  by_cases e : i9 = i
  · subst e; exact h2 j9 hj
  · exact h i9 (by omega) j9 hj
variable {i9 : Nat}
set_option maxHeartbeats 2000000 in
set_option maxRecDepth 20000 in
theorem AK_1 (hx : p.tables.exec = Jvm.exec) (hb : c.code = cL_law) (hml : c.maxLocals = 21) (hown : s.vm.findClass RL = some m.cls) (hts : ∀ w ∈ xTB, w.before args s = true) (hK : va_K D vwCl (xtyL cy) s) (hN : jN mi s) (hZ : jZ zE zc ad A s s.heap) (hX : va_X b L xs s s.heap) (hbl : b < s.heap.size) (hbA : ¬ A b) (hNs : nS s) (hEx : xEx z A s s.heap) (hA : ∀ q, s.heap.size ≤ q → A q) (hI : xI xtb a) (hR : 100 ≤ R.frames ∧ 4000 ≤ R.locals ∧ 600000 ≤ R.cells ∧ 7302250 ≤ R.slots) (hL : L ≤ 1000) (hF : nF s) (hkn : k ≤ R.cells ∧ n ≤ R.slots) (hKA : va_K D vwCl (xtyL cy ++ [(cA, .array .int)]) s) (hi9 : i9 < 9) (kk : ∀ (S1 : xSt) (F : Nat → Nat → Int32) (hB : BX η gn S1) (hi : iX η S1) (hF1 : askP gn η F i9) (hF2 : rowP gn η (F i9) i9 4) (H : Heap) (locs : List Loc) (ls : Array Slot), lv_has ls 21 [(0, .ref b), (1, .ref (a 0)), (2, .ref z0), (3, .ref y), (4, .ref qm), (5, .int (ki (i9 : Int)))] → va_P D vwCl (List.flatten [[(z0, .inr (12, [.ref b, .ref q1, .ref q2, .ref q3, .ref q4, .ref q5, .ref q6, .ref q7])), (q1, .inl (cy 0, 6, .inl fh)), (q2, .inl (cy 0, 30, .inl fd)), (q4, .inl (cy 0, 30, .inl fs))], AMW cA (cy 0) qm rm F, w, xW cy xtb a S1]) H → va_D A (List.flatten [[(z0, .inr (12, [.ref b, .ref q1, .ref q2, .ref q3, .ref q4, .ref q5, .ref q6, .ref q7])), (q1, .inl (cy 0, 6, .inl fh)), (q2, .inl (cy 0, 30, .inl fd)), (q4, .inl (cy 0, 30, .inl fs))], AMW cA (cy 0) qm rm F, w, xW cy xtb a S1]) → va_S A s.heap H locs → W p l e R s m args below meth c H locs k n Q (F0 m 91 ls [])) : ∀ (d i : Nat), i + d = 4 → ∀ (S1 : xSt) (F : Nat → Nat → Int32) (hB : BX η gn S1) (hi : iX η S1) (hF1 : askP gn η F i9) (hF2 : rowP gn η (F i9) i9 i) (H : Heap) (locs : List Loc) (ls : Array Slot), lv_has ls 21 [(0, .ref b), (1, .ref (a 0)), (2, .ref z0), (3, .ref y), (4, .ref qm), (5, .int (ki (i9 : Int))), (6, .int (ki (i : Int)))] → va_P D vwCl (List.flatten [[(z0, .inr (12, [.ref b, .ref q1, .ref q2, .ref q3, .ref q4, .ref q5, .ref q6, .ref q7])), (q1, .inl (cy 0, 6, .inl fh)), (q2, .inl (cy 0, 30, .inl fd)), (q4, .inl (cy 0, 30, .inl fs))], AMW cA (cy 0) qm rm F, w, xW cy xtb a S1]) H → va_D A (List.flatten [[(z0, .inr (12, [.ref b, .ref q1, .ref q2, .ref q3, .ref q4, .ref q5, .ref q6, .ref q7])), (q1, .inl (cy 0, 6, .inl fh)), (q2, .inl (cy 0, 30, .inl fd)), (q4, .inl (cy 0, 30, .inl fs))], AMW cA (cy 0) qm rm F, w, xW cy xtb a S1]) → va_S A s.heap H locs → W p l e R s m args below meth c H locs k n Q (F0 m 63 ls []) := by
  intro d
  induction d with
  | zero =>
    intro i hix S1 F hB hi hF1 hF2 H locs ls hl hP hD hS
    have hix : 4 = i := by omega
    subst hix
    refine lv_iload hx hb dL_law_63 (lv_at hl 6 rfl) ?_
    refine lv_iconst (v := ki 4) hx hb dL_law_65 rfl ?_
    refine kv_icmp_ge_t (tgt := 91) hx hb (by omega) (by omega) (by omega) (by omega) (by omega) dL_law_66 (by decide) ?_
    exact kk S1 F hB hi hF1 hF2 H _ ls (lv_sub hl [0, 1, 2, 3, 4, 5] rfl) hP hD hS
  | succ d ih =>
    intro i hix S1 F hB hi hF1 hF2 H locs ls hl hP hD hS
    refine lv_iload hx hb dL_law_63 (lv_at hl 6 rfl) ?_
    refine lv_iconst (v := ki 4) hx hb dL_law_65 rfl ?_
    refine kv_icmp_ge_f (tgt := 91) hx hb (by omega) (by omega) (by omega) (by omega) (by omega) dL_law_66 (by decide) ?_
    refine lv_aload hx hb dL_law_69 (lv_at hl 4 rfl) ?_
    refine lv_iload hx hb dL_law_71 (lv_at hl 5 rfl) ?_
    have hPa := blk_P (bs := ([[(z0, .inr (12, [.ref b, .ref q1, .ref q2, .ref q3, .ref q4, .ref q5, .ref q6, .ref q7])), (q1, .inl (cy 0, 6, .inl fh)), (q2, .inl (cy 0, 30, .inl fd)), (q4, .inl (cy 0, 30, .inl fs))], AMW cA (cy 0) qm rm F, w, xW cy xtb a S1] : List va_W)) (rs := ([[(z0, .inr (12, [.ref b, .ref q1, .ref q2, .ref q3, .ref q4, .ref q5, .ref q6, .ref q7])), (q1, .inl (cy 0, 6, .inl fh)), (q2, .inl (cy 0, 30, .inl fd)), (q4, .inl (cy 0, 30, .inl fs))], w, xW cy xtb a S1] : List va_W)) (x := AMW cA (cy 0) qm rm F) 1 rfl rfl hP
    refine am_row hx hb hKA 7 rfl hPa (i := i9) (by omega) dL_law_73 ?_
    refine lv_iload hx hb dL_law_74 (lv_at hl 6 rfl) ?_
    refine lv_aload_n hx hb dL_law_76 rfl (lv_at hl 1 rfl) ?_
    refine lv_iload hx hb dL_law_77 (lv_at hl 5 rfl) ?_
    refine lv_iload hx hb dL_law_79 (lv_at hl 6 rfl) ?_
    obtain ⟨⟨S81, v81⟩, hf81, hq81⟩ := t_stack (S := S1) hB (n := i9) (w := (i : Int)) (by omega) (by omega) (by omega)
    dsimp only at hq81
    obtain ⟨hv9, hf9, hl9⟩ := hq81
    subst hv9
    have hB := BX_q hB hf9 hl9
    have hi := iX_q hi hf9
    have hPc := blk_P (bs := ([[(z0, .inr (12, [.ref b, .ref q1, .ref q2, .ref q3, .ref q4, .ref q5, .ref q6, .ref q7])), (q1, .inl (cy 0, 6, .inl fh)), (q2, .inl (cy 0, 30, .inl fd)), (q4, .inl (cy 0, 30, .inl fs))], AMW cA (cy 0) qm rm F, w, xW cy xtb a S1] : List va_W)) (rs := ([[(z0, .inr (12, [.ref b, .ref q1, .ref q2, .ref q3, .ref q4, .ref q5, .ref q6, .ref q7])), (q1, .inl (cy 0, 6, .inl fh)), (q2, .inl (cy 0, 30, .inl fd)), (q4, .inl (cy 0, 30, .inl fs))], AMW cA (cy 0) qm rm F, w] : List va_W)) (x := xW cy xtb a S1) 3 rfl rfl hP
    have hDc := blk_D (bs := ([[(z0, .inr (12, [.ref b, .ref q1, .ref q2, .ref q3, .ref q4, .ref q5, .ref q6, .ref q7])), (q1, .inl (cy 0, 6, .inl fh)), (q2, .inl (cy 0, 30, .inl fd)), (q4, .inl (cy 0, 30, .inl fs))], AMW cA (cy 0) qm rm F, w, xW cy xtb a S1] : List va_W)) (rs := ([[(z0, .inr (12, [.ref b, .ref q1, .ref q2, .ref q3, .ref q4, .ref q5, .ref q6, .ref q7])), (q1, .inl (cy 0, 6, .inl fh)), (q2, .inl (cy 0, 30, .inl fd)), (q4, .inl (cy 0, 30, .inl fs))], AMW cA (cy 0) qm rm F, w] : List va_W)) (x := xW cy xtb a S1) 3 rfl rfl hD
    refine lw_vi hx hb hml hown hts (K_sub hK) hEx hI hPc hDc hS hA (⟨xw_mem 477 (by decide +kernel) rfl, xw_mem 30 (by decide +kernel) rfl, xw_mem 474 (by decide +kernel) rfl, by decide +kernel⟩ : xML RL 84 yX11_stack cX11_stack 4 (some .int) 2) (xw_mem 475 (by decide +kernel) rfl) (xw_mem 476 (by decide +kernel) rfl) (he := rfl) (by decide) rfl [.int (ki (i9 : Int)), .int (ki (i : Int))] (rest := [.int (ki (i : Int)), .ref (rm i9)]) (c_X11_stack hI hf81 _) ⟨by omega, by omega⟩ ⟨by omega, by omega⟩ rfl hl.1 rfl (Nat.le_of_ble_eq_true (rfl)) dL_law_81 (fun H locs hPn hS => ?_)
    have hDn := xD_st (S' := S81) hDc
    have hP := blk_P2 (bs := ([[(z0, .inr (12, [.ref b, .ref q1, .ref q2, .ref q3, .ref q4, .ref q5, .ref q6, .ref q7])), (q1, .inl (cy 0, 6, .inl fh)), (q2, .inl (cy 0, 30, .inl fd)), (q4, .inl (cy 0, 30, .inl fs))], AMW cA (cy 0) qm rm F, w, xW cy xtb a S81] : List va_W)) (rs := ([[(z0, .inr (12, [.ref b, .ref q1, .ref q2, .ref q3, .ref q4, .ref q5, .ref q6, .ref q7])), (q1, .inl (cy 0, 6, .inl fh)), (q2, .inl (cy 0, 30, .inl fd)), (q4, .inl (cy 0, 30, .inl fs))], AMW cA (cy 0) qm rm F, w] : List va_W)) (x := xW cy xtb a S81) 3 rfl rfl hPn
    have hD := blk_D2 (bs := ([[(z0, .inr (12, [.ref b, .ref q1, .ref q2, .ref q3, .ref q4, .ref q5, .ref q6, .ref q7])), (q1, .inl (cy 0, 6, .inl fh)), (q2, .inl (cy 0, 30, .inl fd)), (q4, .inl (cy 0, 30, .inl fs))], AMW cA (cy 0) qm rm F, w, xW cy xtb a S81] : List va_W)) (rs := ([[(z0, .inr (12, [.ref b, .ref q1, .ref q2, .ref q3, .ref q4, .ref q5, .ref q6, .ref q7])), (q1, .inl (cy 0, 6, .inl fh)), (q2, .inl (cy 0, 30, .inl fd)), (q4, .inl (cy 0, 30, .inl fs))], AMW cA (cy 0) qm rm F, w] : List va_W)) (x := xW cy xtb a S81) 3 rfl rfl hDn
    have hPc := blk_P (bs := ([[(z0, .inr (12, [.ref b, .ref q1, .ref q2, .ref q3, .ref q4, .ref q5, .ref q6, .ref q7])), (q1, .inl (cy 0, 6, .inl fh)), (q2, .inl (cy 0, 30, .inl fd)), (q4, .inl (cy 0, 30, .inl fs))], AMW cA (cy 0) qm rm F, w, xW cy xtb a S81] : List va_W)) (rs := ([[(z0, .inr (12, [.ref b, .ref q1, .ref q2, .ref q3, .ref q4, .ref q5, .ref q6, .ref q7])), (q1, .inl (cy 0, 6, .inl fh)), (q2, .inl (cy 0, 30, .inl fd)), (q4, .inl (cy 0, 30, .inl fs))], w, xW cy xtb a S81] : List va_W)) (x := AMW cA (cy 0) qm rm F) 1 rfl rfl hP
    have hDc := blk_D (bs := ([[(z0, .inr (12, [.ref b, .ref q1, .ref q2, .ref q3, .ref q4, .ref q5, .ref q6, .ref q7])), (q1, .inl (cy 0, 6, .inl fh)), (q2, .inl (cy 0, 30, .inl fd)), (q4, .inl (cy 0, 30, .inl fs))], AMW cA (cy 0) qm rm F, w, xW cy xtb a S81] : List va_W)) (rs := ([[(z0, .inr (12, [.ref b, .ref q1, .ref q2, .ref q3, .ref q4, .ref q5, .ref q6, .ref q7])), (q1, .inl (cy 0, 6, .inl fh)), (q2, .inl (cy 0, 30, .inl fd)), (q4, .inl (cy 0, 30, .inl fs))], w, xW cy xtb a S81] : List va_W)) (x := AMW cA (cy 0) qm rm F) 1 rfl rfl hD
    refine am_put hx hb hK 0 rfl hPc hDc hS (i := i9) (j := i) (by omega) (by omega) dL_law_84 (fun H locs hPn hDn hS => ?_)
    have hP := blk_P2 (bs := ([[(z0, .inr (12, [.ref b, .ref q1, .ref q2, .ref q3, .ref q4, .ref q5, .ref q6, .ref q7])), (q1, .inl (cy 0, 6, .inl fh)), (q2, .inl (cy 0, 30, .inl fd)), (q4, .inl (cy 0, 30, .inl fs))], AMW cA (cy 0) qm rm (fun k => if k = i9 then upd (F i9) i (ki (stS (daysN gn i9 η) (i : Int))) else F k), w, xW cy xtb a S81] : List va_W)) (rs := ([[(z0, .inr (12, [.ref b, .ref q1, .ref q2, .ref q3, .ref q4, .ref q5, .ref q6, .ref q7])), (q1, .inl (cy 0, 6, .inl fh)), (q2, .inl (cy 0, 30, .inl fd)), (q4, .inl (cy 0, 30, .inl fs))], w, xW cy xtb a S81] : List va_W)) (x := AMW cA (cy 0) qm rm (fun k => if k = i9 then upd (F i9) i (ki (stS (daysN gn i9 η) (i : Int))) else F k)) 1 rfl rfl hPn
    have hD := blk_D2 (bs := ([[(z0, .inr (12, [.ref b, .ref q1, .ref q2, .ref q3, .ref q4, .ref q5, .ref q6, .ref q7])), (q1, .inl (cy 0, 6, .inl fh)), (q2, .inl (cy 0, 30, .inl fd)), (q4, .inl (cy 0, 30, .inl fs))], AMW cA (cy 0) qm rm (fun k => if k = i9 then upd (F i9) i (ki (stS (daysN gn i9 η) (i : Int))) else F k), w, xW cy xtb a S81] : List va_W)) (rs := ([[(z0, .inr (12, [.ref b, .ref q1, .ref q2, .ref q3, .ref q4, .ref q5, .ref q6, .ref q7])), (q1, .inl (cy 0, 6, .inl fh)), (q2, .inl (cy 0, 30, .inl fd)), (q4, .inl (cy 0, 30, .inl fs))], w, xW cy xtb a S81] : List va_W)) (x := AMW cA (cy 0) qm rm (fun k => if k = i9 then upd (F i9) i (ki (stS (daysN gn i9 η) (i : Int))) else F k)) 1 rfl rfl hDn
    refine lv_iinc (v := ki ((i + 1 : Nat) : Int)) (lv' := [(6, .int (ki ((i + 1 : Nat) : Int))), (0, .ref b), (1, .ref (a 0)), (2, .ref z0), (3, .ref y), (4, .ref qm), (5, .int (ki (i9 : Int)))]) hx hb dL_law_85 hl (k := 6) rfl ((ki_add _ _).trans (congrArg ki (by omega))) (by decide) rfl (fun ls hl => ?_)
    refine lv_goto (tgt := 63) hx hb dL_law_88 (by decide) ?_
    exact ih (i + 1) (by omega) _ (fun k => if k = i9 then upd (F i9) i (ki (stS (daysN gn i9 η) (i : Int))) else F k) hB hi (fun x hx9 y hy => by
      show (if x = i9 then _ else F x) y = _
      rw [if_neg (by omega)]; exact hF1 x hx9 y hy) (by
      show rowP gn η (if i9 = i9 then _ else F i9) i9 (i + 1)
      rw [if_pos rfl]; exact rowP_s hF2) H _ ls (lv_sub hl [1, 2, 3, 4, 5, 6, 0] rfl) hP hD hS
set_option maxHeartbeats 2000000 in
set_option maxRecDepth 20000 in
theorem AK_2 (hx : p.tables.exec = Jvm.exec) (hb : c.code = cL_law) (hml : c.maxLocals = 21) (hown : s.vm.findClass RL = some m.cls) (hts : ∀ w ∈ xTB, w.before args s = true) (hK : va_K D vwCl (xtyL cy) s) (hN : jN mi s) (hZ : jZ zE zc ad A s s.heap) (hX : va_X b L xs s s.heap) (hbl : b < s.heap.size) (hbA : ¬ A b) (hNs : nS s) (hEx : xEx z A s s.heap) (hA : ∀ q, s.heap.size ≤ q → A q) (hI : xI xtb a) (hR : 100 ≤ R.frames ∧ 4000 ≤ R.locals ∧ 600000 ≤ R.cells ∧ 7302250 ≤ R.slots) (hL : L ≤ 1000) (hF : nF s) (hkn : k ≤ R.cells ∧ n ≤ R.slots) (hKA : va_K D vwCl (xtyL cy ++ [(cA, .array .int)]) s) (kk : ∀ (S1 : xSt) (F : Nat → Nat → Int32) (hB : BX η gn S1) (hi : iX η S1) (hF1 : askP gn η F 9) (H : Heap) (locs : List Loc) (ls : Array Slot), lv_has ls 21 [(0, .ref b), (1, .ref (a 0)), (2, .ref z0), (3, .ref y), (4, .ref qm)] → va_P D vwCl (List.flatten [[(z0, .inr (12, [.ref b, .ref q1, .ref q2, .ref q3, .ref q4, .ref q5, .ref q6, .ref q7])), (q1, .inl (cy 0, 6, .inl fh)), (q2, .inl (cy 0, 30, .inl fd)), (q4, .inl (cy 0, 30, .inl fs))], AMW cA (cy 0) qm rm F, w, xW cy xtb a S1]) H → va_D A (List.flatten [[(z0, .inr (12, [.ref b, .ref q1, .ref q2, .ref q3, .ref q4, .ref q5, .ref q6, .ref q7])), (q1, .inl (cy 0, 6, .inl fh)), (q2, .inl (cy 0, 30, .inl fd)), (q4, .inl (cy 0, 30, .inl fs))], AMW cA (cy 0) qm rm F, w, xW cy xtb a S1]) → va_S A s.heap H locs → W p l e R s m args below meth c H locs k n Q (F0 m 97 ls [])) : ∀ (d i : Nat), i + d = 9 → ∀ (S1 : xSt) (F : Nat → Nat → Int32) (hB : BX η gn S1) (hi : iX η S1) (hF1 : askP gn η F i) (H : Heap) (locs : List Loc) (ls : Array Slot), lv_has ls 21 [(0, .ref b), (1, .ref (a 0)), (2, .ref z0), (3, .ref y), (4, .ref qm), (5, .int (ki (i : Int)))] → va_P D vwCl (List.flatten [[(z0, .inr (12, [.ref b, .ref q1, .ref q2, .ref q3, .ref q4, .ref q5, .ref q6, .ref q7])), (q1, .inl (cy 0, 6, .inl fh)), (q2, .inl (cy 0, 30, .inl fd)), (q4, .inl (cy 0, 30, .inl fs))], AMW cA (cy 0) qm rm F, w, xW cy xtb a S1]) H → va_D A (List.flatten [[(z0, .inr (12, [.ref b, .ref q1, .ref q2, .ref q3, .ref q4, .ref q5, .ref q6, .ref q7])), (q1, .inl (cy 0, 6, .inl fh)), (q2, .inl (cy 0, 30, .inl fd)), (q4, .inl (cy 0, 30, .inl fs))], AMW cA (cy 0) qm rm F, w, xW cy xtb a S1]) → va_S A s.heap H locs → W p l e R s m args below meth c H locs k n Q (F0 m 53 ls []) := by
  intro d
  induction d with
  | zero =>
    intro i hix S1 F hB hi hF1 H locs ls hl hP hD hS
    have hix : 9 = i := by omega
    subst hix
    refine lv_iload hx hb dL_law_53 (lv_at hl 5 rfl) ?_
    refine lv_bipush (v := ki 9) hx hb dL_law_55 rfl ?_
    refine kv_icmp_ge_t (tgt := 97) hx hb (by omega) (by omega) (by omega) (by omega) (by omega) dL_law_57 (by decide) ?_
    exact kk S1 F hB hi hF1 H _ ls (lv_sub hl [0, 1, 2, 3, 4] rfl) hP hD hS
  | succ d ih =>
    intro i hix S1 F hB hi hF1 H locs ls hl hP hD hS
    refine lv_iload hx hb dL_law_53 (lv_at hl 5 rfl) ?_
    refine lv_bipush (v := ki 9) hx hb dL_law_55 rfl ?_
    refine kv_icmp_ge_f (tgt := 97) hx hb (by omega) (by omega) (by omega) (by omega) (by omega) dL_law_57 (by decide) ?_
    refine lv_iconst (v := ki 0) hx hb dL_law_60 rfl ?_
    refine lv_istore (lv' := [(6, .int (ki 0)), (0, .ref b), (1, .ref (a 0)), (2, .ref z0), (3, .ref y), (4, .ref qm), (5, .int (ki (i : Int)))]) hx hb dL_law_61 hl (by decide) rfl (fun ls hl => ?_)
    refine AK_1 hx hb hml hown hts hK hN hZ hX hbl hbA hNs hEx hA hI hR hL hF hkn hKA (i9 := i) (by omega) (fun S2 F hB hi hF1 hF2 H locs ls hl hP hD hS => ?_) 4 0 (by omega) _ _ hB hi hF1 (fun j9 hj => absurd hj (Nat.not_lt_zero j9)) _ _ ls (lv_sub hl [1, 2, 3, 4, 5, 6, 0] rfl) hP hD hS
    refine lv_iinc (v := ki ((i + 1 : Nat) : Int)) (lv' := [(5, .int (ki ((i + 1 : Nat) : Int))), (0, .ref b), (1, .ref (a 0)), (2, .ref z0), (3, .ref y), (4, .ref qm)]) hx hb dL_law_91 hl (k := 5) rfl ((ki_add _ _).trans (congrArg ki (by omega))) (by decide) rfl (fun ls hl => ?_)
    refine lv_goto (tgt := 53) hx hb dL_law_94 (by decide) ?_
    exact ih (i + 1) (by omega) _ _ hB hi (askP_s hF1 hF2) _ _ ls (lv_sub hl [1, 2, 3, 4, 5, 0] rfl) hP hD hS
end LAW
