/-! part co: the law looks at the cover (made by wip/p45/gen_co.py) -/
section LAW
variable {l : Launch} {D : va_G} {cy : Nat → ClassId} {mi zE zc : Nat} {ad z a : Nat → Nat} {b L : Nat} {xs : Nat → Int32}
variable {p : Program} {e : Env} {R : Room} {s : State} {m : MethodId} {args : Array Value} {below : List Frame} {meth : Method} {c : Code} {Q : State → Prop} {A : Nat → Prop}
variable {z0 q1 q2 q3 q4 q5 q6 q7 y : Nat} {fh fd fs : Nat → Int32} {w : va_W} {gn : (Int → Int) → Int} {η : Hy} {S : xSt} {k n : Nat}
theorem xgoodF {own C : String} {idx : Nat} {x y : MethodName} {w : Cond} (h1 : Cond.methodLink own idx x ∈ xTB) (h2 : Cond.selects C x y ∈ xTB) (h3 : Cond.instanceMethod y ∈ xTB) (h4 : Cond.initialized y.cls ∈ xTB) (h5 : w ∈ xTB) : GoodIn xTB (va_wsF own idx C x y (w :: xTB)) := by
  intro v hv
  have hv : v ∈ xTB := by
    unfold va_wsF at hv
    rcases List.mem_append.mp hv with q | q
    · rcases List.mem_cons.mp q with e | q
      · rw [e]; exact h1
      rcases List.mem_cons.mp q with e | q
      · rw [e]; exact h2
      rcases List.mem_cons.mp q with e | q
      · rw [e]; exact h3
      rcases List.mem_cons.mp q with e | q
      · rw [e]; exact h4
      cases q
    · rcases List.mem_cons.mp q with e | q
      · rw [e]; exact h5
      · exact q
  exact xgood h5 v (List.mem_cons_of_mem _ hv)
theorem blk_hP {D : va_G} {cl : List vw_C} {H : Heap} {bs rs bs2 : List va_W} {x t : va_W} (i : Nat) (hi : bs[i]? = some (x ++ t)) (hr : bs.eraseIdx i = rs) (hi2 : bs2[i]? = some x) (hr2 : bs2.eraseIdx i = rs) (h : va_P D cl bs.flatten H) : va_P D cl bs2.flatten H := blk_P2 i hi2 hr2 (xP_left (w2 := t) (by
  rw [List.append_assoc]; exact blk_P i hi hr h))
theorem blk_hD {A : Nat → Prop} {bs rs bs2 : List va_W} {x t : va_W} (i : Nat) (hi : bs[i]? = some (x ++ t)) (hr : bs.eraseIdx i = rs) (hi2 : bs2[i]? = some x) (hr2 : bs2.eraseIdx i = rs) (h : va_D A bs.flatten) : va_D A bs2.flatten := blk_D2 i hi2 hr2 (xD_left (w2 := t) (by
  rw [List.append_assoc]; exact blk_D i hi hr h))
theorem bit_I {m0 q : Nat} : (m0 : Int) / ((2 ^ q : Nat) : Int) % 2 = if m0.testBit q = true then 1 else 0 := by
  rw [← Int.natCast_ediv]
  by_cases h : m0.testBit q = true
  · rw [if_pos h]
    have := (tbd m0 q).mp h
    omega
  · rw [if_neg h]
    have := mt (tbd m0 q).mpr h
    omega
def tkP (L : Nat) (xs : Nat → Int32) (m0 : Nat) (j : Int) (c i : Nat) : Prop := ((c : Int) ≠ j ∧ m0.testBit c = true) ∨ ∃ t : Nat, t < i ∧ ∃ q : Nat, (bsL L xs c)[t]? = some q ∧ (q : Int) ≠ j ∧ m0.testBit q = true
theorem tkP_e {L : Nat} {xs : Nat → Int32} {m0 c : Nat} {j : Int} : tkP L xs m0 j c (bsL L xs c).length ↔ tchP L xs m0 j c := by
  unfold tkP tchP
  constructor
  · rintro (h | ⟨t, ht, q, h1, h2, h3⟩)
    · exact Or.inl h
    · exact Or.inr ⟨q, List.mem_of_getElem? h1, h2, h3⟩
  · rintro (h | ⟨q, h1, h2, h3⟩)
    · exact Or.inl h
    · obtain ⟨t, ht⟩ := List.getElem?_of_mem h1
      exact Or.inr ⟨t, (List.getElem?_eq_some_iff.mp ht).1, q, ht, h2, h3⟩
theorem tkP_s {L : Nat} {xs : Nat → Int32} {m0 c i q : Nat} {j : Int} (hq : (bsL L xs c)[i]? = some q) : tkP L xs m0 j c (i + 1) ↔ (tkP L xs m0 j c i ∨ ((q : Int) ≠ j ∧ m0.testBit q = true)) := by
  unfold tkP
  constructor
  · rintro (h | ⟨t, ht, q', h1, h2, h3⟩)
    · exact Or.inl (Or.inl h)
    · by_cases e : t = i
      · subst e
        cases hq.symm.trans h1
        exact Or.inr ⟨h2, h3⟩
      · exact Or.inl (Or.inr ⟨t, by omega, q', h1, h2, h3⟩)
  · rintro ((h | ⟨t, ht, r⟩) | ⟨h1, h2⟩)
    · exact Or.inl h
    · exact Or.inr ⟨t, by omega, r⟩
    · exact Or.inr ⟨i, by omega, q, hq, h1, h2⟩
def chkP (L : Nat) (xs : Nat → Int32) (η : Hy) (x : Int) (m0 : Nat) (j : Int) (i : Nat) : Prop := ∀ t : Nat, t < i → ∀ c : Nat, (csI L xs 30)[t]? = some c → x ≤ η 4 c → tchP L xs m0 j c
theorem chkP_e {L : Nat} {xs : Nat → Int32} {η : Hy} {x j : Int} {m0 : Nat} : chkP L xs η x m0 j (csI L xs 30).length ↔ covP L xs η x m0 j (csI L xs 30) := by
  constructor
  · intro h c hc hx
    obtain ⟨t, ht⟩ := List.getElem?_of_mem hc
    exact h t (List.getElem?_eq_some_iff.mp ht).1 c ht hx
  · intro h t _ c hc hx
    exact h c (List.mem_of_getElem? hc) hx
theorem chkP_s {L : Nat} {xs : Nat → Int32} {η : Hy} {x j : Int} {m0 i c : Nat} (hc : (csI L xs 30)[i]? = some c) : chkP L xs η x m0 j (i + 1) ↔ (chkP L xs η x m0 j i ∧ (x ≤ η 4 c → tchP L xs m0 j c)) := by
  constructor
  · intro h
    exact ⟨fun t ht => h t (by omega), h i (by omega) c hc⟩
  · rintro ⟨h1, h2⟩ t ht c' hc' hx
    by_cases e : t = i
    · subst e
      cases hc.symm.trans hc'
      exact h2 hx
    · exact h1 t (by omega) c' hc' hx
variable {x jj nn : Int} {m0 c9 it it2 y2 : Nat} {wi v2 : va_W}
variable {t12 : Int}
set_option maxHeartbeats 4000000 in
set_option maxRecDepth 20000 in
theorem RA_1 (hx : p.tables.exec = Jvm.exec) (hb : c.code = cL_law) (hml : c.maxLocals = 21) (hown : s.vm.findClass RL = some m.cls) (hts : ∀ w ∈ xTB, w.before args s = true) (hK : va_K D vwCl (xtyL cy) s) (hN : jN mi s) (hZ : jZ zE zc ad A s s.heap) (hX : va_X b L xs s s.heap) (hbl : b < s.heap.size) (hbA : ¬ A b) (hNs : nS s) (hEx : xEx z A s s.heap) (hA : ∀ q, s.heap.size ≤ q → A q) (hI : xI xtb a) (hR : 100 ≤ R.frames ∧ 4000 ≤ R.locals ∧ 600000 ≤ R.cells ∧ 7302250 ≤ R.slots) (hL : L ≤ 1000) (hF : nF s) (hkn : k ≤ R.cells ∧ n ≤ R.slots) (hm0 : m0 < 1073741824) (hjj : -1 ≤ jj ∧ jj ≤ 30) (hv2 : isL cy zE ad y2 (bsL L xs c9) v2) (kk : ∀ (S1 : xSt) (vi : va_W) (t : Int) (hB : BX η gn S1) (hi : iX η S1) (hit : isI y2 it2 (bsL L xs c9).length (bsL L xs c9).length vi) (ht9 : t = 0 ∨ t = 1) (hq9 : t = 1 ↔ tkP L xs m0 jj c9 (bsL L xs c9).length) (H : Heap) (locs : List Loc) (ls : Array Slot), lv_has ls 21 [(0, .ref b), (1, .ref (a 0)), (2, .ref z0), (3, .ref y), (7, .int (ki x)), (8, .int (ki nn)), (9, .long (kj (m0 : Int))), (11, .int (ki jj)), (12, .int (ki t12)), (13, .ref it), (14, .int (ki (c9 : Int))), (15, .int (ki t))] → va_P D vwCl (List.flatten [[(z0, .inr (12, [.ref b, .ref q1, .ref q2, .ref q3, .ref q4, .ref q5, .ref q6, .ref q7])), (q1, .inl (cy 0, 6, .inl fh)), (q2, .inl (cy 0, 30, .inl fd)), (q4, .inl (cy 0, 30, .inl fs))], (w ++ wi), (v2 ++ vi), xW cy xtb a S1]) H → va_D A (List.flatten [[(z0, .inr (12, [.ref b, .ref q1, .ref q2, .ref q3, .ref q4, .ref q5, .ref q6, .ref q7])), (q1, .inl (cy 0, 6, .inl fh)), (q2, .inl (cy 0, 30, .inl fd)), (q4, .inl (cy 0, 30, .inl fs))], (w ++ wi), (v2 ++ vi), xW cy xtb a S1]) → va_S A s.heap H locs → W p l e R s m args below meth c H locs k n Q (F0 m 688 ls [])) : ∀ (d9 i : Nat), i + d9 = (bsL L xs c9).length → ∀ (S1 : xSt) (vi : va_W) (t : Int) (hB : BX η gn S1) (hi : iX η S1) (hit : isI y2 it2 i (bsL L xs c9).length vi) (ht9 : t = 0 ∨ t = 1) (hq9 : t = 1 ↔ tkP L xs m0 jj c9 i) (H : Heap) (locs : List Loc) (ls : Array Slot), lv_has ls 21 [(0, .ref b), (1, .ref (a 0)), (2, .ref z0), (3, .ref y), (7, .int (ki x)), (8, .int (ki nn)), (9, .long (kj (m0 : Int))), (11, .int (ki jj)), (12, .int (ki t12)), (13, .ref it), (14, .int (ki (c9 : Int))), (15, .int (ki t)), (16, .ref it2)] → va_P D vwCl (List.flatten [[(z0, .inr (12, [.ref b, .ref q1, .ref q2, .ref q3, .ref q4, .ref q5, .ref q6, .ref q7])), (q1, .inl (cy 0, 6, .inl fh)), (q2, .inl (cy 0, 30, .inl fd)), (q4, .inl (cy 0, 30, .inl fs))], (w ++ wi), (v2 ++ vi), xW cy xtb a S1]) H → va_D A (List.flatten [[(z0, .inr (12, [.ref b, .ref q1, .ref q2, .ref q3, .ref q4, .ref q5, .ref q6, .ref q7])), (q1, .inl (cy 0, 6, .inl fh)), (q2, .inl (cy 0, 30, .inl fd)), (q4, .inl (cy 0, 30, .inl fs))], (w ++ wi), (v2 ++ vi), xW cy xtb a S1]) → va_S A s.heap H locs → W p l e R s m args below meth c H locs k n Q (F0 m 631 ls []) := by
  intro d9
  induction d9 with
  | zero =>
    intro i hix S1 vi t hB hi hit ht9 hq9 H locs ls hl hP hD hS
    have hix : (bsL L xs c9).length = i := by omega
    subst hix
    have hl30 := hv2.2.1
    refine lv_aload hx hb dL_law_631 (lv_at hl 12 rfl) ?_
    have hPc := blk_P (bs := ([[(z0, .inr (12, [.ref b, .ref q1, .ref q2, .ref q3, .ref q4, .ref q5, .ref q6, .ref q7])), (q1, .inl (cy 0, 6, .inl fh)), (q2, .inl (cy 0, 30, .inl fd)), (q4, .inl (cy 0, 30, .inl fs))], (w ++ wi), (v2 ++ vi), xW cy xtb a S1] : List va_W)) (rs := ([[(z0, .inr (12, [.ref b, .ref q1, .ref q2, .ref q3, .ref q4, .ref q5, .ref q6, .ref q7])), (q1, .inl (cy 0, 6, .inl fh)), (q2, .inl (cy 0, 30, .inl fd)), (q4, .inl (cy 0, 30, .inl fs))], (w ++ wi), xW cy xtb a S1] : List va_W)) (x := (v2 ++ vi)) 2 rfl rfl hP
    have hDc := blk_D (bs := ([[(z0, .inr (12, [.ref b, .ref q1, .ref q2, .ref q3, .ref q4, .ref q5, .ref q6, .ref q7])), (q1, .inl (cy 0, 6, .inl fh)), (q2, .inl (cy 0, 30, .inl fd)), (q4, .inl (cy 0, 30, .inl fs))], (w ++ wi), (v2 ++ vi), xW cy xtb a S1] : List va_W)) (rs := ([[(z0, .inr (12, [.ref b, .ref q1, .ref q2, .ref q3, .ref q4, .ref q5, .ref q6, .ref q7])), (q1, .inl (cy 0, 6, .inl fh)), (q2, .inl (cy 0, 30, .inl fd)), (q4, .inl (cy 0, 30, .inl fs))], (w ++ wi), xW cy xtb a S1] : List va_W)) (x := (v2 ++ vi)) 2 rfl rfl hD
    refine lk_hasNext hx hb hml hown hts hK hN hZ hS hA hl.1 (Nat.le_of_ble_eq_true (rfl)) (rest := []) (xw_mem 1118 (by decide +kernel) rfl) (xgoodF (xw_mem 1110 (by decide +kernel) rfl) (xw_mem 1114 (by decide +kernel) rfl) (xw_mem 1116 (by decide +kernel) rfl) (xw_mem 56 (by decide +kernel) rfl) (xw_mem 1118 (by decide +kernel) rfl)) hv2 hit (by omega) hPc hDc ⟨by omega, by omega⟩ ⟨by omega, by omega⟩ dL_law_633 (fun H locs hPn hDn hS => ?_)
    have hP := blk_P2 (bs := ([[(z0, .inr (12, [.ref b, .ref q1, .ref q2, .ref q3, .ref q4, .ref q5, .ref q6, .ref q7])), (q1, .inl (cy 0, 6, .inl fh)), (q2, .inl (cy 0, 30, .inl fd)), (q4, .inl (cy 0, 30, .inl fs))], (w ++ wi), (v2 ++ vi), xW cy xtb a S1] : List va_W)) (rs := ([[(z0, .inr (12, [.ref b, .ref q1, .ref q2, .ref q3, .ref q4, .ref q5, .ref q6, .ref q7])), (q1, .inl (cy 0, 6, .inl fh)), (q2, .inl (cy 0, 30, .inl fd)), (q4, .inl (cy 0, 30, .inl fs))], (w ++ wi), xW cy xtb a S1] : List va_W)) (x := (v2 ++ vi)) 2 rfl rfl hPn
    have hD := blk_D2 (bs := ([[(z0, .inr (12, [.ref b, .ref q1, .ref q2, .ref q3, .ref q4, .ref q5, .ref q6, .ref q7])), (q1, .inl (cy 0, 6, .inl fh)), (q2, .inl (cy 0, 30, .inl fd)), (q4, .inl (cy 0, 30, .inl fs))], (w ++ wi), (v2 ++ vi), xW cy xtb a S1] : List va_W)) (rs := ([[(z0, .inr (12, [.ref b, .ref q1, .ref q2, .ref q3, .ref q4, .ref q5, .ref q6, .ref q7])), (q1, .inl (cy 0, 6, .inl fh)), (q2, .inl (cy 0, 30, .inl fd)), (q4, .inl (cy 0, 30, .inl fs))], (w ++ wi), xW cy xtb a S1] : List va_W)) (x := (v2 ++ vi)) 2 rfl rfl hDn
    rw [show bi _ = 0 from if_neg (by omega)]
    refine kv_if_eq_t (tgt := 688) hx hb (by omega) (by omega) (by omega) dL_law_638 (by decide) ?_
    exact kk S1 vi t hB hi hit ht9 hq9 H _ ls (lv_sub hl [0, 1, 2, 3, 4, 5, 6, 7, 8, 9, 10, 11] rfl) hP hD hS
  | succ d9 ih =>
    intro i hix S1 vi t hB hi hit ht9 hq9 H locs ls hl hP hD hS
    obtain ⟨q9, hq0⟩ : ∃ q9, (bsL L xs c9)[i]? = some q9 := ⟨_, List.getElem?_eq_getElem (by omega)⟩
    have hq30 : q9 < 30 := hv2.1 q9 (List.mem_of_getElem? hq0)
    have hl30 := hv2.2.1
    refine lv_aload hx hb dL_law_631 (lv_at hl 12 rfl) ?_
    have hPc := blk_P (bs := ([[(z0, .inr (12, [.ref b, .ref q1, .ref q2, .ref q3, .ref q4, .ref q5, .ref q6, .ref q7])), (q1, .inl (cy 0, 6, .inl fh)), (q2, .inl (cy 0, 30, .inl fd)), (q4, .inl (cy 0, 30, .inl fs))], (w ++ wi), (v2 ++ vi), xW cy xtb a S1] : List va_W)) (rs := ([[(z0, .inr (12, [.ref b, .ref q1, .ref q2, .ref q3, .ref q4, .ref q5, .ref q6, .ref q7])), (q1, .inl (cy 0, 6, .inl fh)), (q2, .inl (cy 0, 30, .inl fd)), (q4, .inl (cy 0, 30, .inl fs))], (w ++ wi), xW cy xtb a S1] : List va_W)) (x := (v2 ++ vi)) 2 rfl rfl hP
    have hDc := blk_D (bs := ([[(z0, .inr (12, [.ref b, .ref q1, .ref q2, .ref q3, .ref q4, .ref q5, .ref q6, .ref q7])), (q1, .inl (cy 0, 6, .inl fh)), (q2, .inl (cy 0, 30, .inl fd)), (q4, .inl (cy 0, 30, .inl fs))], (w ++ wi), (v2 ++ vi), xW cy xtb a S1] : List va_W)) (rs := ([[(z0, .inr (12, [.ref b, .ref q1, .ref q2, .ref q3, .ref q4, .ref q5, .ref q6, .ref q7])), (q1, .inl (cy 0, 6, .inl fh)), (q2, .inl (cy 0, 30, .inl fd)), (q4, .inl (cy 0, 30, .inl fs))], (w ++ wi), xW cy xtb a S1] : List va_W)) (x := (v2 ++ vi)) 2 rfl rfl hD
    refine lk_hasNext hx hb hml hown hts hK hN hZ hS hA hl.1 (Nat.le_of_ble_eq_true (rfl)) (rest := []) (xw_mem 1118 (by decide +kernel) rfl) (xgoodF (xw_mem 1110 (by decide +kernel) rfl) (xw_mem 1114 (by decide +kernel) rfl) (xw_mem 1116 (by decide +kernel) rfl) (xw_mem 56 (by decide +kernel) rfl) (xw_mem 1118 (by decide +kernel) rfl)) hv2 hit (by omega) hPc hDc ⟨by omega, by omega⟩ ⟨by omega, by omega⟩ dL_law_633 (fun H locs hPn hDn hS => ?_)
    have hP := blk_P2 (bs := ([[(z0, .inr (12, [.ref b, .ref q1, .ref q2, .ref q3, .ref q4, .ref q5, .ref q6, .ref q7])), (q1, .inl (cy 0, 6, .inl fh)), (q2, .inl (cy 0, 30, .inl fd)), (q4, .inl (cy 0, 30, .inl fs))], (w ++ wi), (v2 ++ vi), xW cy xtb a S1] : List va_W)) (rs := ([[(z0, .inr (12, [.ref b, .ref q1, .ref q2, .ref q3, .ref q4, .ref q5, .ref q6, .ref q7])), (q1, .inl (cy 0, 6, .inl fh)), (q2, .inl (cy 0, 30, .inl fd)), (q4, .inl (cy 0, 30, .inl fs))], (w ++ wi), xW cy xtb a S1] : List va_W)) (x := (v2 ++ vi)) 2 rfl rfl hPn
    have hD := blk_D2 (bs := ([[(z0, .inr (12, [.ref b, .ref q1, .ref q2, .ref q3, .ref q4, .ref q5, .ref q6, .ref q7])), (q1, .inl (cy 0, 6, .inl fh)), (q2, .inl (cy 0, 30, .inl fd)), (q4, .inl (cy 0, 30, .inl fs))], (w ++ wi), (v2 ++ vi), xW cy xtb a S1] : List va_W)) (rs := ([[(z0, .inr (12, [.ref b, .ref q1, .ref q2, .ref q3, .ref q4, .ref q5, .ref q6, .ref q7])), (q1, .inl (cy 0, 6, .inl fh)), (q2, .inl (cy 0, 30, .inl fd)), (q4, .inl (cy 0, 30, .inl fs))], (w ++ wi), xW cy xtb a S1] : List va_W)) (x := (v2 ++ vi)) 2 rfl rfl hDn
    rw [show bi _ = 1 from if_pos (by omega)]
    refine kv_if_eq_f (tgt := 688) hx hb (by omega) (by omega) (by omega) dL_law_638 (by decide) ?_
    refine lv_aload hx hb dL_law_641 (lv_at hl 12 rfl) ?_
    have hPc := blk_P (bs := ([[(z0, .inr (12, [.ref b, .ref q1, .ref q2, .ref q3, .ref q4, .ref q5, .ref q6, .ref q7])), (q1, .inl (cy 0, 6, .inl fh)), (q2, .inl (cy 0, 30, .inl fd)), (q4, .inl (cy 0, 30, .inl fs))], (w ++ wi), (v2 ++ vi), xW cy xtb a S1] : List va_W)) (rs := ([[(z0, .inr (12, [.ref b, .ref q1, .ref q2, .ref q3, .ref q4, .ref q5, .ref q6, .ref q7])), (q1, .inl (cy 0, 6, .inl fh)), (q2, .inl (cy 0, 30, .inl fd)), (q4, .inl (cy 0, 30, .inl fs))], (w ++ wi), xW cy xtb a S1] : List va_W)) (x := (v2 ++ vi)) 2 rfl rfl hP
    have hDc := blk_D (bs := ([[(z0, .inr (12, [.ref b, .ref q1, .ref q2, .ref q3, .ref q4, .ref q5, .ref q6, .ref q7])), (q1, .inl (cy 0, 6, .inl fh)), (q2, .inl (cy 0, 30, .inl fd)), (q4, .inl (cy 0, 30, .inl fs))], (w ++ wi), (v2 ++ vi), xW cy xtb a S1] : List va_W)) (rs := ([[(z0, .inr (12, [.ref b, .ref q1, .ref q2, .ref q3, .ref q4, .ref q5, .ref q6, .ref q7])), (q1, .inl (cy 0, 6, .inl fh)), (q2, .inl (cy 0, 30, .inl fd)), (q4, .inl (cy 0, 30, .inl fs))], (w ++ wi), xW cy xtb a S1] : List va_W)) (x := (v2 ++ vi)) 2 rfl rfl hD
    refine lk_next hx hb hml hown hts hK hN hZ hS hA hl.1 (Nat.le_of_ble_eq_true (rfl)) (rest := []) (xw_mem 1127 (by decide +kernel) rfl) (xgoodF (xw_mem 1120 (by decide +kernel) rfl) (xw_mem 1123 (by decide +kernel) rfl) (xw_mem 1125 (by decide +kernel) rfl) (xw_mem 56 (by decide +kernel) rfl) (xw_mem 1127 (by decide +kernel) rfl)) hv2 hit hq0 hPc hDc ⟨by omega, by omega⟩ ⟨by omega, by omega⟩ dL_law_643 (fun vi3 H locs hit hPn hDn hS => ?_)
    have hP := blk_P2 (bs := ([[(z0, .inr (12, [.ref b, .ref q1, .ref q2, .ref q3, .ref q4, .ref q5, .ref q6, .ref q7])), (q1, .inl (cy 0, 6, .inl fh)), (q2, .inl (cy 0, 30, .inl fd)), (q4, .inl (cy 0, 30, .inl fs))], (w ++ wi), (v2 ++ vi3), xW cy xtb a S1] : List va_W)) (rs := ([[(z0, .inr (12, [.ref b, .ref q1, .ref q2, .ref q3, .ref q4, .ref q5, .ref q6, .ref q7])), (q1, .inl (cy 0, 6, .inl fh)), (q2, .inl (cy 0, 30, .inl fd)), (q4, .inl (cy 0, 30, .inl fs))], (w ++ wi), xW cy xtb a S1] : List va_W)) (x := (v2 ++ vi3)) 2 rfl rfl hPn
    have hD := blk_D2 (bs := ([[(z0, .inr (12, [.ref b, .ref q1, .ref q2, .ref q3, .ref q4, .ref q5, .ref q6, .ref q7])), (q1, .inl (cy 0, 6, .inl fh)), (q2, .inl (cy 0, 30, .inl fd)), (q4, .inl (cy 0, 30, .inl fs))], (w ++ wi), (v2 ++ vi3), xW cy xtb a S1] : List va_W)) (rs := ([[(z0, .inr (12, [.ref b, .ref q1, .ref q2, .ref q3, .ref q4, .ref q5, .ref q6, .ref q7])), (q1, .inl (cy 0, 6, .inl fh)), (q2, .inl (cy 0, 30, .inl fd)), (q4, .inl (cy 0, 30, .inl fs))], (w ++ wi), xW cy xtb a S1] : List va_W)) (x := (v2 ++ vi3)) 2 rfl rfl hDn
    refine lk_unbox hx hb hml hown hts hK hN hZ hS hA hl.1 (Nat.le_of_ble_eq_true (rfl)) (rest := []) (⟨xw_mem 1056 (by decide +kernel) rfl, xw_mem 48 (by decide +kernel) rfl, xw_mem 1053 (by decide +kernel) rfl, by decide +kernel⟩ : xML RL 102 yJ6_intValue_8abf5 cJ6_intValue_8abf5 1 (some .int) 0) (hts _ (xw_mem 1134 (by decide +kernel) rfl)) (v := q9) (by omega) hD hP ⟨by omega, by omega⟩ ⟨by omega, by omega⟩ dL_law_648 dL_law_651 (fun H locs hP hD hS => ?_)
    refine lv_istore (lv' := [(17, .int (ki (q9 : Int))), (0, .ref b), (1, .ref (a 0)), (2, .ref z0), (3, .ref y), (7, .int (ki x)), (8, .int (ki nn)), (9, .long (kj (m0 : Int))), (11, .int (ki jj)), (12, .int (ki t12)), (13, .ref it), (14, .int (ki (c9 : Int))), (15, .int (ki t)), (16, .ref it2)]) hx hb dL_law_654 hl (by decide) rfl (fun ls hl => ?_)
    by_cases hqj : (q9 : Int) = jj
    · refine lv_iload hx hb dL_law_656 (lv_at hl 12 rfl) ?_
      refine lv_iload hx hb dL_law_658 (lv_at hl 0 rfl) ?_
      refine lv_iload hx hb dL_law_660 (lv_at hl 8 rfl) ?_
      refine kv_icmp_eq_t (tgt := 681) hx hb (by omega) (by omega) (by omega) (by omega) (by omega) dL_law_662 (by decide) ?_
      refine lv_iconst (v := ki 0) hx hb dL_law_681 rfl ?_
      refine lv_ior hx hb dL_law_682 ?_
      rw [show ki t ||| ki 0 = ki t from by rcases ht9 with rfl | rfl <;> rfl]
      refine lv_istore (lv' := [(15, .int (ki t)), (17, .int (ki (q9 : Int))), (0, .ref b), (1, .ref (a 0)), (2, .ref z0), (3, .ref y), (7, .int (ki x)), (8, .int (ki nn)), (9, .long (kj (m0 : Int))), (11, .int (ki jj)), (12, .int (ki t12)), (13, .ref it), (14, .int (ki (c9 : Int))), (16, .ref it2)]) hx hb dL_law_683 hl (by decide) rfl (fun ls hl => ?_)
      refine lv_goto (tgt := 631) hx hb dL_law_685 (by decide) ?_
      exact ih (i + 1) (by omega) _ _ t hB hi hit ht9 (by rw [tkP_s hq0]; exact ⟨fun h => Or.inl (hq9.mp h), fun h => h.elim hq9.mpr (fun h => absurd hqj h.1)⟩) _ _ ls (lv_sub hl [2, 3, 4, 5, 6, 7, 8, 9, 10, 11, 12, 0, 13] rfl) hP hD hS
    · by_cases hbit : m0.testBit q9 = true
      · refine lv_iload hx hb dL_law_656 (lv_at hl 12 rfl) ?_
        refine lv_iload hx hb dL_law_658 (lv_at hl 0 rfl) ?_
        refine lv_iload hx hb dL_law_660 (lv_at hl 8 rfl) ?_
        refine kv_icmp_eq_f (tgt := 681) hx hb (by omega) (by omega) (by omega) (by omega) (by omega) dL_law_662 (by decide) ?_
        refine lv_lload hx hb dL_law_665 (lv_at hl 7 rfl) ?_
        refine lv_iload hx hb dL_law_667 (lv_at hl 0 rfl) ?_
        refine lv_lshr (v := kj ((m0 : Int) / ((2 ^ (q9 : Int).toNat : Nat) : Int))) hx hb dL_law_669 (kv_lshr (by omega) (by omega) (by omega) (by omega)) ?_
        refine lv_lconst (v := kj 1) hx hb dL_law_670 rfl ?_
        have hdv := dv_b (x := (m0 : Int)) (by omega) (q9)
        refine lv_land hx hb dL_law_671 ?_
        rw [show (kj ((m0 : Int) / ((2 ^ (q9 : Int).toNat : Nat) : Int)) &&& kj 1) = kj (((m0 : Int) / ((2 ^ (q9 : Int).toNat : Nat) : Int)) % 2) from kv_land1 (show 0 ≤ (m0 : Int) / ((2 ^ q9 : Nat) : Int) by omega) (show (m0 : Int) / ((2 ^ q9 : Nat) : Int) < 1000000000000 by omega), show ((m0 : Int) / ((2 ^ (q9 : Int).toNat : Nat) : Int)) % 2 = 1 from (bit_I (m0 := m0) (q := q9)).trans (if_pos hbit)]
        refine lv_lconst (v := kj 1) hx hb dL_law_672 rfl ?_
        refine W.lcmp hx hb dL_law_673 ?_
        rw [kJ_cmp (a := 1) (b := 1) (by omega) (by omega) (by omega) (by omega), show (if (1 : Int) < 1 then (1 : Int) else if (1 : Int) = 1 then 0 else -1) = 0 from by decide]
        refine kv_if_ne_f (tgt := 681) hx hb (by omega) (by omega) (by omega) dL_law_674 (by decide) ?_
        refine lv_iconst (v := ki 1) hx hb dL_law_677 rfl ?_
        refine lv_goto (tgt := 682) hx hb dL_law_678 (by decide) ?_
        refine lv_ior hx hb dL_law_682 ?_
        rw [show ki t ||| ki 1 = ki 1 from by rcases ht9 with rfl | rfl <;> rfl]
        refine lv_istore (lv' := [(15, .int (ki 1)), (17, .int (ki (q9 : Int))), (0, .ref b), (1, .ref (a 0)), (2, .ref z0), (3, .ref y), (7, .int (ki x)), (8, .int (ki nn)), (9, .long (kj (m0 : Int))), (11, .int (ki jj)), (12, .int (ki t12)), (13, .ref it), (14, .int (ki (c9 : Int))), (16, .ref it2)]) hx hb dL_law_683 hl (by decide) rfl (fun ls hl => ?_)
        refine lv_goto (tgt := 631) hx hb dL_law_685 (by decide) ?_
        exact ih (i + 1) (by omega) _ _ 1 hB hi hit (Or.inr rfl) (by rw [tkP_s hq0]; exact ⟨fun _ => Or.inr ⟨hqj, hbit⟩, fun _ => rfl⟩) _ _ ls (lv_sub hl [2, 3, 4, 5, 6, 7, 8, 9, 10, 11, 12, 0, 13] rfl) hP hD hS
      · refine lv_iload hx hb dL_law_656 (lv_at hl 12 rfl) ?_
        refine lv_iload hx hb dL_law_658 (lv_at hl 0 rfl) ?_
        refine lv_iload hx hb dL_law_660 (lv_at hl 8 rfl) ?_
        refine kv_icmp_eq_f (tgt := 681) hx hb (by omega) (by omega) (by omega) (by omega) (by omega) dL_law_662 (by decide) ?_
        refine lv_lload hx hb dL_law_665 (lv_at hl 7 rfl) ?_
        refine lv_iload hx hb dL_law_667 (lv_at hl 0 rfl) ?_
        refine lv_lshr (v := kj ((m0 : Int) / ((2 ^ (q9 : Int).toNat : Nat) : Int))) hx hb dL_law_669 (kv_lshr (by omega) (by omega) (by omega) (by omega)) ?_
        refine lv_lconst (v := kj 1) hx hb dL_law_670 rfl ?_
        have hdv := dv_b (x := (m0 : Int)) (by omega) (q9)
        refine lv_land hx hb dL_law_671 ?_
        rw [show (kj ((m0 : Int) / ((2 ^ (q9 : Int).toNat : Nat) : Int)) &&& kj 1) = kj (((m0 : Int) / ((2 ^ (q9 : Int).toNat : Nat) : Int)) % 2) from kv_land1 (show 0 ≤ (m0 : Int) / ((2 ^ q9 : Nat) : Int) by omega) (show (m0 : Int) / ((2 ^ q9 : Nat) : Int) < 1000000000000 by omega), show ((m0 : Int) / ((2 ^ (q9 : Int).toNat : Nat) : Int)) % 2 = 0 from (bit_I (m0 := m0) (q := q9)).trans (if_neg hbit)]
        refine lv_lconst (v := kj 1) hx hb dL_law_672 rfl ?_
        refine W.lcmp hx hb dL_law_673 ?_
        rw [kJ_cmp (a := 0) (b := 1) (by omega) (by omega) (by omega) (by omega), show (if (1 : Int) < 0 then (1 : Int) else if (0 : Int) = 1 then 0 else -1) = (-1) from by decide]
        refine kv_if_ne_t (tgt := 681) hx hb (by omega) (by omega) (by omega) dL_law_674 (by decide) ?_
        refine lv_iconst (v := ki 0) hx hb dL_law_681 rfl ?_
        refine lv_ior hx hb dL_law_682 ?_
        rw [show ki t ||| ki 0 = ki t from by rcases ht9 with rfl | rfl <;> rfl]
        refine lv_istore (lv' := [(15, .int (ki t)), (17, .int (ki (q9 : Int))), (0, .ref b), (1, .ref (a 0)), (2, .ref z0), (3, .ref y), (7, .int (ki x)), (8, .int (ki nn)), (9, .long (kj (m0 : Int))), (11, .int (ki jj)), (12, .int (ki t12)), (13, .ref it), (14, .int (ki (c9 : Int))), (16, .ref it2)]) hx hb dL_law_683 hl (by decide) rfl (fun ls hl => ?_)
        refine lv_goto (tgt := 631) hx hb dL_law_685 (by decide) ?_
        exact ih (i + 1) (by omega) _ _ t hB hi hit ht9 (by rw [tkP_s hq0]; exact ⟨fun h => Or.inl (hq9.mp h), fun h => h.elim hq9.mpr (fun h => absurd h.2 hbit)⟩) _ _ ls (lv_sub hl [2, 3, 4, 5, 6, 7, 8, 9, 10, 11, 12, 0, 13] rfl) hP hD hS
variable {k0 n0 : Nat}
set_option maxHeartbeats 4000000 in
set_option maxRecDepth 20000 in
theorem RA_2 (hx : p.tables.exec = Jvm.exec) (hb : c.code = cL_law) (hml : c.maxLocals = 21) (hown : s.vm.findClass RL = some m.cls) (hts : ∀ w ∈ xTB, w.before args s = true) (hK : va_K D vwCl (xtyL cy) s) (hN : jN mi s) (hZ : jZ zE zc ad A s s.heap) (hX : va_X b L xs s s.heap) (hbl : b < s.heap.size) (hbA : ¬ A b) (hNs : nS s) (hEx : xEx z A s s.heap) (hA : ∀ q, s.heap.size ≤ q → A q) (hI : xI xtb a) (hR : 100 ≤ R.frames ∧ 4000 ≤ R.locals ∧ 600000 ≤ R.cells ∧ 7302250 ≤ R.slots) (hL : L ≤ 1000) (hF : nF s) (hk0 : k0 + 180 ≤ R.cells ∧ n0 + 12210 ≤ R.slots) (hm0 : m0 < 1073741824) (hjj : -1 ≤ jj ∧ jj ≤ 30) (hxb : 0 ≤ x ∧ x ≤ 99) (hE : bE L xs η) (hh : ∀ j : Nat, j < 6 → fh j = ki (hgS L xs j)) (hw9 : isL cy zE ad y (csI L xs 30) w) (kk : ∀ (S1 : xSt) (wi : va_W) (t : Int) (k n : Nat) (hk : k ≤ k0 + 6 * (csI L xs 30).length) (hn : n ≤ n0 + 407 * (csI L xs 30).length) (hB : BX η gn S1) (hi : iX η S1) (hio : isI y it (csI L xs 30).length (csI L xs 30).length wi) (ht9 : t = 0 ∨ t = 1) (hq9 : t = 1 ↔ chkP L xs η x m0 jj (csI L xs 30).length) (H : Heap) (locs : List Loc) (ls : Array Slot), lv_has ls 21 [(0, .ref b), (1, .ref (a 0)), (2, .ref z0), (3, .ref y), (7, .int (ki x)), (8, .int (ki nn)), (9, .long (kj (m0 : Int))), (11, .int (ki jj)), (12, .int (ki t))] → va_P D vwCl (List.flatten [[(z0, .inr (12, [.ref b, .ref q1, .ref q2, .ref q3, .ref q4, .ref q5, .ref q6, .ref q7])), (q1, .inl (cy 0, 6, .inl fh)), (q2, .inl (cy 0, 30, .inl fd)), (q4, .inl (cy 0, 30, .inl fs))], (w ++ wi), xW cy xtb a S1]) H → va_D A (List.flatten [[(z0, .inr (12, [.ref b, .ref q1, .ref q2, .ref q3, .ref q4, .ref q5, .ref q6, .ref q7])), (q1, .inl (cy 0, 6, .inl fh)), (q2, .inl (cy 0, 30, .inl fd)), (q4, .inl (cy 0, 30, .inl fs))], (w ++ wi), xW cy xtb a S1]) → va_S A s.heap H locs → W p l e R s m args below meth c H locs k n Q (F0 m 698 ls [])) : ∀ (d9 i : Nat), i + d9 = (csI L xs 30).length → ∀ (S1 : xSt) (wi : va_W) (t : Int) (k n : Nat) (hk : k ≤ k0 + 6 * i) (hn : n ≤ n0 + 407 * i) (hB : BX η gn S1) (hi : iX η S1) (hio : isI y it i (csI L xs 30).length wi) (ht9 : t = 0 ∨ t = 1) (hq9 : t = 1 ↔ chkP L xs η x m0 jj i) (H : Heap) (locs : List Loc) (ls : Array Slot), lv_has ls 21 [(0, .ref b), (1, .ref (a 0)), (2, .ref z0), (3, .ref y), (7, .int (ki x)), (8, .int (ki nn)), (9, .long (kj (m0 : Int))), (11, .int (ki jj)), (12, .int (ki t)), (13, .ref it)] → va_P D vwCl (List.flatten [[(z0, .inr (12, [.ref b, .ref q1, .ref q2, .ref q3, .ref q4, .ref q5, .ref q6, .ref q7])), (q1, .inl (cy 0, 6, .inl fh)), (q2, .inl (cy 0, 30, .inl fd)), (q4, .inl (cy 0, 30, .inl fs))], (w ++ wi), xW cy xtb a S1]) H → va_D A (List.flatten [[(z0, .inr (12, [.ref b, .ref q1, .ref q2, .ref q3, .ref q4, .ref q5, .ref q6, .ref q7])), (q1, .inl (cy 0, 6, .inl fh)), (q2, .inl (cy 0, 30, .inl fd)), (q4, .inl (cy 0, 30, .inl fs))], (w ++ wi), xW cy xtb a S1]) → va_S A s.heap H locs → W p l e R s m args below meth c H locs k n Q (F0 m 554 ls []) := by
  intro d9
  induction d9 with
  | zero =>
    intro i hix S1 wi t k n hk hn hB hi hio ht9 hq9 H locs ls hl hP hD hS
    have hix : (csI L xs 30).length = i := by omega
    subst hix
    have hl30 := hw9.2.1
    refine lv_aload hx hb dL_law_554 (lv_at hl 9 rfl) ?_
    have hPc := blk_P (bs := ([[(z0, .inr (12, [.ref b, .ref q1, .ref q2, .ref q3, .ref q4, .ref q5, .ref q6, .ref q7])), (q1, .inl (cy 0, 6, .inl fh)), (q2, .inl (cy 0, 30, .inl fd)), (q4, .inl (cy 0, 30, .inl fs))], (w ++ wi), xW cy xtb a S1] : List va_W)) (rs := ([[(z0, .inr (12, [.ref b, .ref q1, .ref q2, .ref q3, .ref q4, .ref q5, .ref q6, .ref q7])), (q1, .inl (cy 0, 6, .inl fh)), (q2, .inl (cy 0, 30, .inl fd)), (q4, .inl (cy 0, 30, .inl fs))], xW cy xtb a S1] : List va_W)) (x := (w ++ wi)) 1 rfl rfl hP
    have hDc := blk_D (bs := ([[(z0, .inr (12, [.ref b, .ref q1, .ref q2, .ref q3, .ref q4, .ref q5, .ref q6, .ref q7])), (q1, .inl (cy 0, 6, .inl fh)), (q2, .inl (cy 0, 30, .inl fd)), (q4, .inl (cy 0, 30, .inl fs))], (w ++ wi), xW cy xtb a S1] : List va_W)) (rs := ([[(z0, .inr (12, [.ref b, .ref q1, .ref q2, .ref q3, .ref q4, .ref q5, .ref q6, .ref q7])), (q1, .inl (cy 0, 6, .inl fh)), (q2, .inl (cy 0, 30, .inl fd)), (q4, .inl (cy 0, 30, .inl fs))], xW cy xtb a S1] : List va_W)) (x := (w ++ wi)) 1 rfl rfl hD
    refine lk_hasNext hx hb hml hown hts hK hN hZ hS hA hl.1 (Nat.le_of_ble_eq_true (rfl)) (rest := []) (xw_mem 1118 (by decide +kernel) rfl) (xgoodF (xw_mem 1110 (by decide +kernel) rfl) (xw_mem 1114 (by decide +kernel) rfl) (xw_mem 1116 (by decide +kernel) rfl) (xw_mem 56 (by decide +kernel) rfl) (xw_mem 1118 (by decide +kernel) rfl)) hw9 hio (by omega) hPc hDc ⟨by omega, by omega⟩ ⟨by omega, by omega⟩ dL_law_556 (fun H locs hPn hDn hS => ?_)
    have hP := blk_P2 (bs := ([[(z0, .inr (12, [.ref b, .ref q1, .ref q2, .ref q3, .ref q4, .ref q5, .ref q6, .ref q7])), (q1, .inl (cy 0, 6, .inl fh)), (q2, .inl (cy 0, 30, .inl fd)), (q4, .inl (cy 0, 30, .inl fs))], (w ++ wi), xW cy xtb a S1] : List va_W)) (rs := ([[(z0, .inr (12, [.ref b, .ref q1, .ref q2, .ref q3, .ref q4, .ref q5, .ref q6, .ref q7])), (q1, .inl (cy 0, 6, .inl fh)), (q2, .inl (cy 0, 30, .inl fd)), (q4, .inl (cy 0, 30, .inl fs))], xW cy xtb a S1] : List va_W)) (x := (w ++ wi)) 1 rfl rfl hPn
    have hD := blk_D2 (bs := ([[(z0, .inr (12, [.ref b, .ref q1, .ref q2, .ref q3, .ref q4, .ref q5, .ref q6, .ref q7])), (q1, .inl (cy 0, 6, .inl fh)), (q2, .inl (cy 0, 30, .inl fd)), (q4, .inl (cy 0, 30, .inl fs))], (w ++ wi), xW cy xtb a S1] : List va_W)) (rs := ([[(z0, .inr (12, [.ref b, .ref q1, .ref q2, .ref q3, .ref q4, .ref q5, .ref q6, .ref q7])), (q1, .inl (cy 0, 6, .inl fh)), (q2, .inl (cy 0, 30, .inl fd)), (q4, .inl (cy 0, 30, .inl fs))], xW cy xtb a S1] : List va_W)) (x := (w ++ wi)) 1 rfl rfl hDn
    rw [show bi _ = 0 from if_neg (by omega)]
    refine kv_if_eq_t (tgt := 698) hx hb (by omega) (by omega) (by omega) dL_law_561 (by decide) ?_
    exact kk S1 wi t k n hk hn hB hi hio ht9 hq9 H _ ls (lv_sub hl [0, 1, 2, 3, 4, 5, 6, 7, 8] rfl) hP hD hS
  | succ d9 ih =>
    intro i hix S1 wi t k n hk hn hB hi hio ht9 hq9 H locs ls hl hP hD hS
    obtain ⟨c9, hc0⟩ : ∃ c9, (csI L xs 30)[i]? = some c9 := ⟨_, List.getElem?_eq_getElem (by omega)⟩
    have hcm := List.mem_of_getElem? hc0
    have hc30 : c9 < 30 := hw9.1 c9 hcm
    have hch := cs_has hE hcm
    have hl30 := hw9.2.1
    have hh4 := hB.1.2.2.2.1 (c9 : Int)
    refine lv_aload hx hb dL_law_554 (lv_at hl 9 rfl) ?_
    have hPc := blk_P (bs := ([[(z0, .inr (12, [.ref b, .ref q1, .ref q2, .ref q3, .ref q4, .ref q5, .ref q6, .ref q7])), (q1, .inl (cy 0, 6, .inl fh)), (q2, .inl (cy 0, 30, .inl fd)), (q4, .inl (cy 0, 30, .inl fs))], (w ++ wi), xW cy xtb a S1] : List va_W)) (rs := ([[(z0, .inr (12, [.ref b, .ref q1, .ref q2, .ref q3, .ref q4, .ref q5, .ref q6, .ref q7])), (q1, .inl (cy 0, 6, .inl fh)), (q2, .inl (cy 0, 30, .inl fd)), (q4, .inl (cy 0, 30, .inl fs))], xW cy xtb a S1] : List va_W)) (x := (w ++ wi)) 1 rfl rfl hP
    have hDc := blk_D (bs := ([[(z0, .inr (12, [.ref b, .ref q1, .ref q2, .ref q3, .ref q4, .ref q5, .ref q6, .ref q7])), (q1, .inl (cy 0, 6, .inl fh)), (q2, .inl (cy 0, 30, .inl fd)), (q4, .inl (cy 0, 30, .inl fs))], (w ++ wi), xW cy xtb a S1] : List va_W)) (rs := ([[(z0, .inr (12, [.ref b, .ref q1, .ref q2, .ref q3, .ref q4, .ref q5, .ref q6, .ref q7])), (q1, .inl (cy 0, 6, .inl fh)), (q2, .inl (cy 0, 30, .inl fd)), (q4, .inl (cy 0, 30, .inl fs))], xW cy xtb a S1] : List va_W)) (x := (w ++ wi)) 1 rfl rfl hD
    refine lk_hasNext hx hb hml hown hts hK hN hZ hS hA hl.1 (Nat.le_of_ble_eq_true (rfl)) (rest := []) (xw_mem 1118 (by decide +kernel) rfl) (xgoodF (xw_mem 1110 (by decide +kernel) rfl) (xw_mem 1114 (by decide +kernel) rfl) (xw_mem 1116 (by decide +kernel) rfl) (xw_mem 56 (by decide +kernel) rfl) (xw_mem 1118 (by decide +kernel) rfl)) hw9 hio (by omega) hPc hDc ⟨by omega, by omega⟩ ⟨by omega, by omega⟩ dL_law_556 (fun H locs hPn hDn hS => ?_)
    have hP := blk_P2 (bs := ([[(z0, .inr (12, [.ref b, .ref q1, .ref q2, .ref q3, .ref q4, .ref q5, .ref q6, .ref q7])), (q1, .inl (cy 0, 6, .inl fh)), (q2, .inl (cy 0, 30, .inl fd)), (q4, .inl (cy 0, 30, .inl fs))], (w ++ wi), xW cy xtb a S1] : List va_W)) (rs := ([[(z0, .inr (12, [.ref b, .ref q1, .ref q2, .ref q3, .ref q4, .ref q5, .ref q6, .ref q7])), (q1, .inl (cy 0, 6, .inl fh)), (q2, .inl (cy 0, 30, .inl fd)), (q4, .inl (cy 0, 30, .inl fs))], xW cy xtb a S1] : List va_W)) (x := (w ++ wi)) 1 rfl rfl hPn
    have hD := blk_D2 (bs := ([[(z0, .inr (12, [.ref b, .ref q1, .ref q2, .ref q3, .ref q4, .ref q5, .ref q6, .ref q7])), (q1, .inl (cy 0, 6, .inl fh)), (q2, .inl (cy 0, 30, .inl fd)), (q4, .inl (cy 0, 30, .inl fs))], (w ++ wi), xW cy xtb a S1] : List va_W)) (rs := ([[(z0, .inr (12, [.ref b, .ref q1, .ref q2, .ref q3, .ref q4, .ref q5, .ref q6, .ref q7])), (q1, .inl (cy 0, 6, .inl fh)), (q2, .inl (cy 0, 30, .inl fd)), (q4, .inl (cy 0, 30, .inl fs))], xW cy xtb a S1] : List va_W)) (x := (w ++ wi)) 1 rfl rfl hDn
    rw [show bi _ = 1 from if_pos (by omega)]
    refine kv_if_eq_f (tgt := 698) hx hb (by omega) (by omega) (by omega) dL_law_561 (by decide) ?_
    refine lv_aload hx hb dL_law_564 (lv_at hl 9 rfl) ?_
    have hPc := blk_P (bs := ([[(z0, .inr (12, [.ref b, .ref q1, .ref q2, .ref q3, .ref q4, .ref q5, .ref q6, .ref q7])), (q1, .inl (cy 0, 6, .inl fh)), (q2, .inl (cy 0, 30, .inl fd)), (q4, .inl (cy 0, 30, .inl fs))], (w ++ wi), xW cy xtb a S1] : List va_W)) (rs := ([[(z0, .inr (12, [.ref b, .ref q1, .ref q2, .ref q3, .ref q4, .ref q5, .ref q6, .ref q7])), (q1, .inl (cy 0, 6, .inl fh)), (q2, .inl (cy 0, 30, .inl fd)), (q4, .inl (cy 0, 30, .inl fs))], xW cy xtb a S1] : List va_W)) (x := (w ++ wi)) 1 rfl rfl hP
    have hDc := blk_D (bs := ([[(z0, .inr (12, [.ref b, .ref q1, .ref q2, .ref q3, .ref q4, .ref q5, .ref q6, .ref q7])), (q1, .inl (cy 0, 6, .inl fh)), (q2, .inl (cy 0, 30, .inl fd)), (q4, .inl (cy 0, 30, .inl fs))], (w ++ wi), xW cy xtb a S1] : List va_W)) (rs := ([[(z0, .inr (12, [.ref b, .ref q1, .ref q2, .ref q3, .ref q4, .ref q5, .ref q6, .ref q7])), (q1, .inl (cy 0, 6, .inl fh)), (q2, .inl (cy 0, 30, .inl fd)), (q4, .inl (cy 0, 30, .inl fs))], xW cy xtb a S1] : List va_W)) (x := (w ++ wi)) 1 rfl rfl hD
    refine lk_next hx hb hml hown hts hK hN hZ hS hA hl.1 (Nat.le_of_ble_eq_true (rfl)) (rest := []) (xw_mem 1127 (by decide +kernel) rfl) (xgoodF (xw_mem 1120 (by decide +kernel) rfl) (xw_mem 1123 (by decide +kernel) rfl) (xw_mem 1125 (by decide +kernel) rfl) (xw_mem 56 (by decide +kernel) rfl) (xw_mem 1127 (by decide +kernel) rfl)) hw9 hio hc0 hPc hDc ⟨by omega, by omega⟩ ⟨by omega, by omega⟩ dL_law_566 (fun wi3 H locs hio hPn hDn hS => ?_)
    have hP := blk_P2 (bs := ([[(z0, .inr (12, [.ref b, .ref q1, .ref q2, .ref q3, .ref q4, .ref q5, .ref q6, .ref q7])), (q1, .inl (cy 0, 6, .inl fh)), (q2, .inl (cy 0, 30, .inl fd)), (q4, .inl (cy 0, 30, .inl fs))], (w ++ wi3), xW cy xtb a S1] : List va_W)) (rs := ([[(z0, .inr (12, [.ref b, .ref q1, .ref q2, .ref q3, .ref q4, .ref q5, .ref q6, .ref q7])), (q1, .inl (cy 0, 6, .inl fh)), (q2, .inl (cy 0, 30, .inl fd)), (q4, .inl (cy 0, 30, .inl fs))], xW cy xtb a S1] : List va_W)) (x := (w ++ wi3)) 1 rfl rfl hPn
    have hD := blk_D2 (bs := ([[(z0, .inr (12, [.ref b, .ref q1, .ref q2, .ref q3, .ref q4, .ref q5, .ref q6, .ref q7])), (q1, .inl (cy 0, 6, .inl fh)), (q2, .inl (cy 0, 30, .inl fd)), (q4, .inl (cy 0, 30, .inl fs))], (w ++ wi3), xW cy xtb a S1] : List va_W)) (rs := ([[(z0, .inr (12, [.ref b, .ref q1, .ref q2, .ref q3, .ref q4, .ref q5, .ref q6, .ref q7])), (q1, .inl (cy 0, 6, .inl fh)), (q2, .inl (cy 0, 30, .inl fd)), (q4, .inl (cy 0, 30, .inl fs))], xW cy xtb a S1] : List va_W)) (x := (w ++ wi3)) 1 rfl rfl hDn
    refine lk_unbox hx hb hml hown hts hK hN hZ hS hA hl.1 (Nat.le_of_ble_eq_true (rfl)) (rest := []) (⟨xw_mem 1056 (by decide +kernel) rfl, xw_mem 48 (by decide +kernel) rfl, xw_mem 1053 (by decide +kernel) rfl, by decide +kernel⟩ : xML RL 102 yJ6_intValue_8abf5 cJ6_intValue_8abf5 1 (some .int) 0) (hts _ (xw_mem 1134 (by decide +kernel) rfl)) (v := c9) (by omega) hD hP ⟨by omega, by omega⟩ ⟨by omega, by omega⟩ dL_law_571 dL_law_574 (fun H locs hP hD hS => ?_)
    refine lv_istore (lv' := [(14, .int (ki (c9 : Int))), (0, .ref b), (1, .ref (a 0)), (2, .ref z0), (3, .ref y), (7, .int (ki x)), (8, .int (ki nn)), (9, .long (kj (m0 : Int))), (11, .int (ki jj)), (12, .int (ki t)), (13, .ref it)]) hx hb dL_law_577 hl (by decide) rfl (fun ls hl => ?_)
    refine lv_aload_n hx hb dL_law_579 rfl (lv_at hl 2 rfl) ?_
    refine lv_iload hx hb dL_law_580 (lv_at hl 0 rfl) ?_
    refine lv_iconst (v := ki 1) hx hb dL_law_582 rfl ?_
    obtain ⟨⟨S583, v583⟩, hf583, hq583⟩ := t_of1 (S := S1) hB (c := (c9 : Int)) hch
    dsimp only at hq583
    obtain ⟨hv9, hf9, hl9⟩ := hq583
    subst hv9
    have hB := BX_q hB hf9 hl9
    have hi := iX_q hi hf9
    have hPc := blk_P (bs := ([[(z0, .inr (12, [.ref b, .ref q1, .ref q2, .ref q3, .ref q4, .ref q5, .ref q6, .ref q7])), (q1, .inl (cy 0, 6, .inl fh)), (q2, .inl (cy 0, 30, .inl fd)), (q4, .inl (cy 0, 30, .inl fs))], (w ++ wi3), xW cy xtb a S1] : List va_W)) (rs := ([[(z0, .inr (12, [.ref b, .ref q1, .ref q2, .ref q3, .ref q4, .ref q5, .ref q6, .ref q7])), (q1, .inl (cy 0, 6, .inl fh)), (q2, .inl (cy 0, 30, .inl fd)), (q4, .inl (cy 0, 30, .inl fs))], (w ++ wi3)] : List va_W)) (x := xW cy xtb a S1) 2 rfl rfl hP
    have hDc := blk_D (bs := ([[(z0, .inr (12, [.ref b, .ref q1, .ref q2, .ref q3, .ref q4, .ref q5, .ref q6, .ref q7])), (q1, .inl (cy 0, 6, .inl fh)), (q2, .inl (cy 0, 30, .inl fd)), (q4, .inl (cy 0, 30, .inl fs))], (w ++ wi3), xW cy xtb a S1] : List va_W)) (rs := ([[(z0, .inr (12, [.ref b, .ref q1, .ref q2, .ref q3, .ref q4, .ref q5, .ref q6, .ref q7])), (q1, .inl (cy 0, 6, .inl fh)), (q2, .inl (cy 0, 30, .inl fd)), (q4, .inl (cy 0, 30, .inl fs))], (w ++ wi3)] : List va_W)) (x := xW cy xtb a S1) 2 rfl rfl hD
    refine lw_vi hx hb hml hown hts (K_sub hK) hEx hI hPc hDc hS hA (⟨xw_mem 473 (by decide +kernel) rfl, xw_mem 30 (by decide +kernel) rfl, xw_mem 470 (by decide +kernel) rfl, by decide +kernel⟩ : xML RL 159 yX11_of cX11_of 3 (some .int) 2) (xw_mem 471 (by decide +kernel) rfl) (xw_mem 472 (by decide +kernel) rfl) (he := rfl) (by decide) rfl [.int (ki (c9 : Int)), .int (ki 1)] (rest := []) (c_X11_of hI hf583 _) ⟨by omega, by omega⟩ ⟨by omega, by omega⟩ rfl hl.1 rfl (Nat.le_of_ble_eq_true (rfl)) dL_law_583 (fun H locs hPn hS => ?_)
    have hDn := xD_st (S' := S583) hDc
    have hP := blk_P2 (bs := ([[(z0, .inr (12, [.ref b, .ref q1, .ref q2, .ref q3, .ref q4, .ref q5, .ref q6, .ref q7])), (q1, .inl (cy 0, 6, .inl fh)), (q2, .inl (cy 0, 30, .inl fd)), (q4, .inl (cy 0, 30, .inl fs))], (w ++ wi3), xW cy xtb a S583] : List va_W)) (rs := ([[(z0, .inr (12, [.ref b, .ref q1, .ref q2, .ref q3, .ref q4, .ref q5, .ref q6, .ref q7])), (q1, .inl (cy 0, 6, .inl fh)), (q2, .inl (cy 0, 30, .inl fd)), (q4, .inl (cy 0, 30, .inl fs))], (w ++ wi3)] : List va_W)) (x := xW cy xtb a S583) 2 rfl rfl hPn
    have hD := blk_D2 (bs := ([[(z0, .inr (12, [.ref b, .ref q1, .ref q2, .ref q3, .ref q4, .ref q5, .ref q6, .ref q7])), (q1, .inl (cy 0, 6, .inl fh)), (q2, .inl (cy 0, 30, .inl fd)), (q4, .inl (cy 0, 30, .inl fs))], (w ++ wi3), xW cy xtb a S583] : List va_W)) (rs := ([[(z0, .inr (12, [.ref b, .ref q1, .ref q2, .ref q3, .ref q4, .ref q5, .ref q6, .ref q7])), (q1, .inl (cy 0, 6, .inl fh)), (q2, .inl (cy 0, 30, .inl fd)), (q4, .inl (cy 0, 30, .inl fs))], (w ++ wi3)] : List va_W)) (x := xW cy xtb a S583) 2 rfl rfl hDn
    refine lv_iload hx hb dL_law_586 (lv_at hl 5 rfl) ?_
    refine kv_icmp_ge (tgt := 594) hx hb (by omega) (by omega) (by omega) (by omega) dL_law_588 (by decide) (fun hx4 => ?_) (fun hx4 => ?_)
    · by_cases hcj : (c9 : Int) = jj
      · have hno : ¬ ((c9 : Int) ≠ jj ∧ m0.testBit c9 = true) := fun h => h.1 hcj
        refine lv_iload hx hb dL_law_594 (lv_at hl 0 rfl) ?_
        refine lv_iload hx hb dL_law_596 (lv_at hl 8 rfl) ?_
        refine kv_icmp_eq_t (tgt := 617) hx hb (by omega) (by omega) (by omega) (by omega) (by omega) dL_law_598 (by decide) ?_
        refine lv_iconst (v := ki 0) hx hb dL_law_617 rfl ?_
        refine lv_istore (lv' := [(15, .int (ki 0)), (14, .int (ki (c9 : Int))), (0, .ref b), (1, .ref (a 0)), (2, .ref z0), (3, .ref y), (7, .int (ki x)), (8, .int (ki nn)), (9, .long (kj (m0 : Int))), (11, .int (ki jj)), (12, .int (ki t)), (13, .ref it)]) hx hb dL_law_618 hl (by decide) rfl (fun ls hl => ?_)
        refine lv_aload_n hx hb dL_law_620 rfl (lv_at hl 4 rfl) ?_
        refine lv_iload hx hb dL_law_621 (lv_at hl 1 rfl) ?_
        have hPc := blk_P (bs := ([[(z0, .inr (12, [.ref b, .ref q1, .ref q2, .ref q3, .ref q4, .ref q5, .ref q6, .ref q7])), (q1, .inl (cy 0, 6, .inl fh)), (q2, .inl (cy 0, 30, .inl fd)), (q4, .inl (cy 0, 30, .inl fs))], (w ++ wi3), xW cy xtb a S583] : List va_W)) (rs := ([(w ++ wi3), xW cy xtb a S583] : List va_W)) (x := [(z0, .inr (12, [.ref b, .ref q1, .ref q2, .ref q3, .ref q4, .ref q5, .ref q6, .ref q7])), (q1, .inl (cy 0, 6, .inl fh)), (q2, .inl (cy 0, 30, .inl fd)), (q4, .inl (cy 0, 30, .inl fs))]) 0 rfl rfl hP
        have hDc := blk_D (bs := ([[(z0, .inr (12, [.ref b, .ref q1, .ref q2, .ref q3, .ref q4, .ref q5, .ref q6, .ref q7])), (q1, .inl (cy 0, 6, .inl fh)), (q2, .inl (cy 0, 30, .inl fd)), (q4, .inl (cy 0, 30, .inl fs))], (w ++ wi3), xW cy xtb a S583] : List va_W)) (rs := ([(w ++ wi3), xW cy xtb a S583] : List va_W)) (x := [(z0, .inr (12, [.ref b, .ref q1, .ref q2, .ref q3, .ref q4, .ref q5, .ref q6, .ref q7])), (q1, .inl (cy 0, 6, .inl fh)), (q2, .inl (cy 0, 30, .inl fd)), (q4, .inl (cy 0, 30, .inl fs))]) 0 rfl rfl hD
        refine kc_Vr hx hb hml hown hts (⟨xw_mem 947 (by decide +kernel) rfl, xw_mem 43 (by decide +kernel) rfl, xw_mem 944 (by decide +kernel) rfl, by decide +kernel⟩ : xML RL 162 yX12_beside cX12_beside 3 (some (.object "java/util/ArrayList")) 1) (xw_mem 945 (by decide +kernel) rfl) (xw_mem 946 (by decide +kernel) rfl) (va_recv hK hP (rfl : vwCl[12]? = some (RX12, TX12, 8)) (show ((List.flatten [[(z0, .inr (12, [.ref b, .ref q1, .ref q2, .ref q3, .ref q4, .ref q5, .ref q6, .ref q7])), (q1, .inl (cy 0, 6, .inl fh)), (q2, .inl (cy 0, 30, .inl fd)), (q4, .inl (cy 0, 30, .inl fs))], (w ++ wi3), xW cy xtb a S583]))[0]? = _ from rfl)) hPc hDc hS hA [.int (ki (c9 : Int))] (rest := []) _ _ (c_beside (q := c9) hc30 hh _) jP_bl (fun U hU hW => jP_to hPc hDc hS hA hK hN hZ hU hW) ⟨by omega, by omega⟩ (by omega) (by omega) rfl hl.1 rfl (Nat.le_of_ble_eq_true (rfl)) dL_law_623 (fun y2 v2 t8 H locs ht8 hw8 hB8 hz hJ hS => ?_)
        obtain ⟨hv2, hP1, hD1⟩ := hB8
        rw [ht8] at hP1
        obtain ⟨hPn, hDn⟩ := hJ _ hP1 hD1
        have hP := xP_perm hPn (blk2_perm (bs := ([[(z0, .inr (12, [.ref b, .ref q1, .ref q2, .ref q3, .ref q4, .ref q5, .ref q6, .ref q7])), (q1, .inl (cy 0, 6, .inl fh)), (q2, .inl (cy 0, 30, .inl fd)), (q4, .inl (cy 0, 30, .inl fs))], (w ++ wi3), v2, xW cy xtb a S583] : List va_W)) (r1 := ([[(z0, .inr (12, [.ref b, .ref q1, .ref q2, .ref q3, .ref q4, .ref q5, .ref q6, .ref q7])), (q1, .inl (cy 0, 6, .inl fh)), (q2, .inl (cy 0, 30, .inl fd)), (q4, .inl (cy 0, 30, .inl fs))], (w ++ wi3), xW cy xtb a S583] : List va_W)) (rs := ([(w ++ wi3), xW cy xtb a S583] : List va_W)) (x := [(z0, .inr (12, [.ref b, .ref q1, .ref q2, .ref q3, .ref q4, .ref q5, .ref q6, .ref q7])), (q1, .inl (cy 0, 6, .inl fh)), (q2, .inl (cy 0, 30, .inl fd)), (q4, .inl (cy 0, 30, .inl fs))]) (y := v2) 2 0 rfl rfl rfl rfl).symm
        have hD := xD_perm hDn (blk2_perm (bs := ([[(z0, .inr (12, [.ref b, .ref q1, .ref q2, .ref q3, .ref q4, .ref q5, .ref q6, .ref q7])), (q1, .inl (cy 0, 6, .inl fh)), (q2, .inl (cy 0, 30, .inl fd)), (q4, .inl (cy 0, 30, .inl fs))], (w ++ wi3), v2, xW cy xtb a S583] : List va_W)) (r1 := ([[(z0, .inr (12, [.ref b, .ref q1, .ref q2, .ref q3, .ref q4, .ref q5, .ref q6, .ref q7])), (q1, .inl (cy 0, 6, .inl fh)), (q2, .inl (cy 0, 30, .inl fd)), (q4, .inl (cy 0, 30, .inl fs))], (w ++ wi3), xW cy xtb a S583] : List va_W)) (rs := ([(w ++ wi3), xW cy xtb a S583] : List va_W)) (x := [(z0, .inr (12, [.ref b, .ref q1, .ref q2, .ref q3, .ref q4, .ref q5, .ref q6, .ref q7])), (q1, .inl (cy 0, 6, .inl fh)), (q2, .inl (cy 0, 30, .inl fd)), (q4, .inl (cy 0, 30, .inl fs))]) (y := v2) 2 0 rfl rfl rfl rfl).symm
        have hPc := blk_P (bs := ([[(z0, .inr (12, [.ref b, .ref q1, .ref q2, .ref q3, .ref q4, .ref q5, .ref q6, .ref q7])), (q1, .inl (cy 0, 6, .inl fh)), (q2, .inl (cy 0, 30, .inl fd)), (q4, .inl (cy 0, 30, .inl fs))], (w ++ wi3), v2, xW cy xtb a S583] : List va_W)) (rs := ([[(z0, .inr (12, [.ref b, .ref q1, .ref q2, .ref q3, .ref q4, .ref q5, .ref q6, .ref q7])), (q1, .inl (cy 0, 6, .inl fh)), (q2, .inl (cy 0, 30, .inl fd)), (q4, .inl (cy 0, 30, .inl fs))], (w ++ wi3), xW cy xtb a S583] : List va_W)) (x := v2) 2 rfl rfl hP
        have hDc := blk_D (bs := ([[(z0, .inr (12, [.ref b, .ref q1, .ref q2, .ref q3, .ref q4, .ref q5, .ref q6, .ref q7])), (q1, .inl (cy 0, 6, .inl fh)), (q2, .inl (cy 0, 30, .inl fd)), (q4, .inl (cy 0, 30, .inl fs))], (w ++ wi3), v2, xW cy xtb a S583] : List va_W)) (rs := ([[(z0, .inr (12, [.ref b, .ref q1, .ref q2, .ref q3, .ref q4, .ref q5, .ref q6, .ref q7])), (q1, .inl (cy 0, 6, .inl fh)), (q2, .inl (cy 0, 30, .inl fd)), (q4, .inl (cy 0, 30, .inl fs))], (w ++ wi3), xW cy xtb a S583] : List va_W)) (x := v2) 2 rfl rfl hD
        refine lk_iter hx hb hml hown hts hK hN hZ hS hA hl.1 (Nat.le_of_ble_eq_true (rfl)) (rest := []) (⟨xw_mem 1089 (by decide +kernel) rfl, xw_mem 46 (by decide +kernel) rfl, xw_mem 1086 (by decide +kernel) rfl, by decide +kernel⟩ : xML RL 146 yJx4a65c_iterator_32c93 cJx4a65c_iterator_32c93 1 (some (.object "java/util/Iterator")) 0) hv2 hPc hDc ⟨by omega, by omega⟩ ⟨by omega, by omega⟩ dL_law_626 (fun it2 vi H locs hit hPn hDn hS => ?_)
        have hP := blk_P2 (bs := ([[(z0, .inr (12, [.ref b, .ref q1, .ref q2, .ref q3, .ref q4, .ref q5, .ref q6, .ref q7])), (q1, .inl (cy 0, 6, .inl fh)), (q2, .inl (cy 0, 30, .inl fd)), (q4, .inl (cy 0, 30, .inl fs))], (w ++ wi3), (v2 ++ vi), xW cy xtb a S583] : List va_W)) (rs := ([[(z0, .inr (12, [.ref b, .ref q1, .ref q2, .ref q3, .ref q4, .ref q5, .ref q6, .ref q7])), (q1, .inl (cy 0, 6, .inl fh)), (q2, .inl (cy 0, 30, .inl fd)), (q4, .inl (cy 0, 30, .inl fs))], (w ++ wi3), xW cy xtb a S583] : List va_W)) (x := (v2 ++ vi)) 2 rfl rfl hPn
        have hD := blk_D2 (bs := ([[(z0, .inr (12, [.ref b, .ref q1, .ref q2, .ref q3, .ref q4, .ref q5, .ref q6, .ref q7])), (q1, .inl (cy 0, 6, .inl fh)), (q2, .inl (cy 0, 30, .inl fd)), (q4, .inl (cy 0, 30, .inl fs))], (w ++ wi3), (v2 ++ vi), xW cy xtb a S583] : List va_W)) (rs := ([[(z0, .inr (12, [.ref b, .ref q1, .ref q2, .ref q3, .ref q4, .ref q5, .ref q6, .ref q7])), (q1, .inl (cy 0, 6, .inl fh)), (q2, .inl (cy 0, 30, .inl fd)), (q4, .inl (cy 0, 30, .inl fs))], (w ++ wi3), xW cy xtb a S583] : List va_W)) (x := (v2 ++ vi)) 2 rfl rfl hDn
        refine lv_astore (lv' := [(16, .ref it2), (15, .int (ki 0)), (14, .int (ki (c9 : Int))), (0, .ref b), (1, .ref (a 0)), (2, .ref z0), (3, .ref y), (7, .int (ki x)), (8, .int (ki nn)), (9, .long (kj (m0 : Int))), (11, .int (ki jj)), (12, .int (ki t)), (13, .ref it)]) hx hb dL_law_629 hl (by decide) rfl (fun ls hl => ?_)
        refine RA_1 hx hb hml hown hts hK hN hZ hX hbl hbA hNs hEx hA hI hR hL hF ⟨by omega, by omega⟩ hm0 hjj hv2 (fun S2 vi t5 hB hi hit ht5 hq5 H locs ls hl hP hD hS => ?_) (bsL L xs c9).length 0 (by omega) _ _ 0 hB hi hit (Or.inl rfl) ⟨fun h => absurd h (by decide), fun h => by
          rcases h with h | ⟨t7, h7, _⟩
          · exact absurd h hno
          · exact absurd h7 (Nat.not_lt_zero t7)⟩ _ _ ls (lv_sub hl [3, 4, 5, 6, 7, 8, 9, 10, 11, 12, 2, 1, 0] rfl) hP hD hS
        rcases ht5 with h5 | h5
        · subst h5
          refine lv_iload hx hb dL_law_688 (lv_at hl 8 rfl) ?_
          refine lv_iload hx hb dL_law_690 (lv_at hl 11 rfl) ?_
          refine lv_iand hx hb dL_law_692 ?_
          rw [show ki t &&& ki 0 = ki 0 from by rcases ht9 with rfl | rfl <;> rfl]
          refine lv_istore (lv' := [(12, .int (ki 0)), (0, .ref b), (1, .ref (a 0)), (2, .ref z0), (3, .ref y), (7, .int (ki x)), (8, .int (ki nn)), (9, .long (kj (m0 : Int))), (11, .int (ki jj)), (13, .ref it), (14, .int (ki (c9 : Int))), (15, .int (ki 0))]) hx hb dL_law_693 hl (by decide) rfl (fun ls hl => ?_)
          refine lv_goto (tgt := 554) hx hb dL_law_695 (by decide) ?_
          have hP := drp_P (bs := ([[(z0, .inr (12, [.ref b, .ref q1, .ref q2, .ref q3, .ref q4, .ref q5, .ref q6, .ref q7])), (q1, .inl (cy 0, 6, .inl fh)), (q2, .inl (cy 0, 30, .inl fd)), (q4, .inl (cy 0, 30, .inl fs))], (w ++ wi3), (v2 ++ vi), xW cy xtb a S2] : List va_W)) (rs := ([[(z0, .inr (12, [.ref b, .ref q1, .ref q2, .ref q3, .ref q4, .ref q5, .ref q6, .ref q7])), (q1, .inl (cy 0, 6, .inl fh)), (q2, .inl (cy 0, 30, .inl fd)), (q4, .inl (cy 0, 30, .inl fs))], (w ++ wi3), xW cy xtb a S2] : List va_W)) (x := (v2 ++ vi)) 2 rfl rfl hP
          have hD := drp_D (bs := ([[(z0, .inr (12, [.ref b, .ref q1, .ref q2, .ref q3, .ref q4, .ref q5, .ref q6, .ref q7])), (q1, .inl (cy 0, 6, .inl fh)), (q2, .inl (cy 0, 30, .inl fd)), (q4, .inl (cy 0, 30, .inl fs))], (w ++ wi3), (v2 ++ vi), xW cy xtb a S2] : List va_W)) (rs := ([[(z0, .inr (12, [.ref b, .ref q1, .ref q2, .ref q3, .ref q4, .ref q5, .ref q6, .ref q7])), (q1, .inl (cy 0, 6, .inl fh)), (q2, .inl (cy 0, 30, .inl fd)), (q4, .inl (cy 0, 30, .inl fs))], (w ++ wi3), xW cy xtb a S2] : List va_W)) (x := (v2 ++ vi)) 2 rfl rfl hD
          exact ih (i + 1) (by omega) _ _ 0 _ _ (by omega) (by omega) hB hi hio (Or.inl rfl) (by rw [chkP_s hc0]; exact ⟨fun h => absurd h (by decide), fun h => absurd (hq5.mpr (tkP_e.mpr (h.2 hx4))) (by decide)⟩) _ _ ls (lv_sub hl [1, 2, 3, 4, 5, 6, 7, 8, 0, 9] rfl) hP hD hS
        · subst h5
          refine lv_iload hx hb dL_law_688 (lv_at hl 8 rfl) ?_
          refine lv_iload hx hb dL_law_690 (lv_at hl 11 rfl) ?_
          refine lv_iand hx hb dL_law_692 ?_
          rw [show ki t &&& ki 1 = ki t from by rcases ht9 with rfl | rfl <;> rfl]
          refine lv_istore (lv' := [(12, .int (ki t)), (0, .ref b), (1, .ref (a 0)), (2, .ref z0), (3, .ref y), (7, .int (ki x)), (8, .int (ki nn)), (9, .long (kj (m0 : Int))), (11, .int (ki jj)), (13, .ref it), (14, .int (ki (c9 : Int))), (15, .int (ki 1))]) hx hb dL_law_693 hl (by decide) rfl (fun ls hl => ?_)
          refine lv_goto (tgt := 554) hx hb dL_law_695 (by decide) ?_
          have hP := drp_P (bs := ([[(z0, .inr (12, [.ref b, .ref q1, .ref q2, .ref q3, .ref q4, .ref q5, .ref q6, .ref q7])), (q1, .inl (cy 0, 6, .inl fh)), (q2, .inl (cy 0, 30, .inl fd)), (q4, .inl (cy 0, 30, .inl fs))], (w ++ wi3), (v2 ++ vi), xW cy xtb a S2] : List va_W)) (rs := ([[(z0, .inr (12, [.ref b, .ref q1, .ref q2, .ref q3, .ref q4, .ref q5, .ref q6, .ref q7])), (q1, .inl (cy 0, 6, .inl fh)), (q2, .inl (cy 0, 30, .inl fd)), (q4, .inl (cy 0, 30, .inl fs))], (w ++ wi3), xW cy xtb a S2] : List va_W)) (x := (v2 ++ vi)) 2 rfl rfl hP
          have hD := drp_D (bs := ([[(z0, .inr (12, [.ref b, .ref q1, .ref q2, .ref q3, .ref q4, .ref q5, .ref q6, .ref q7])), (q1, .inl (cy 0, 6, .inl fh)), (q2, .inl (cy 0, 30, .inl fd)), (q4, .inl (cy 0, 30, .inl fs))], (w ++ wi3), (v2 ++ vi), xW cy xtb a S2] : List va_W)) (rs := ([[(z0, .inr (12, [.ref b, .ref q1, .ref q2, .ref q3, .ref q4, .ref q5, .ref q6, .ref q7])), (q1, .inl (cy 0, 6, .inl fh)), (q2, .inl (cy 0, 30, .inl fd)), (q4, .inl (cy 0, 30, .inl fs))], (w ++ wi3), xW cy xtb a S2] : List va_W)) (x := (v2 ++ vi)) 2 rfl rfl hD
          exact ih (i + 1) (by omega) _ _ t _ _ (by omega) (by omega) hB hi hio ht9 (by rw [chkP_s hc0]; exact ⟨fun h => ⟨hq9.mp h, fun _ => tkP_e.mp (hq5.mp rfl)⟩, fun h => hq9.mpr h.1⟩) _ _ ls (lv_sub hl [1, 2, 3, 4, 5, 6, 7, 8, 0, 9] rfl) hP hD hS
      · by_cases hbit : m0.testBit c9 = true
        · refine lv_iload hx hb dL_law_594 (lv_at hl 0 rfl) ?_
          refine lv_iload hx hb dL_law_596 (lv_at hl 8 rfl) ?_
          refine kv_icmp_eq_f (tgt := 617) hx hb (by omega) (by omega) (by omega) (by omega) (by omega) dL_law_598 (by decide) ?_
          refine lv_lload hx hb dL_law_601 (lv_at hl 7 rfl) ?_
          refine lv_iload hx hb dL_law_603 (lv_at hl 0 rfl) ?_
          refine lv_lshr (v := kj ((m0 : Int) / ((2 ^ (c9 : Int).toNat : Nat) : Int))) hx hb dL_law_605 (kv_lshr (by omega) (by omega) (by omega) (by omega)) ?_
          refine lv_lconst (v := kj 1) hx hb dL_law_606 rfl ?_
          have hdv := dv_b (x := (m0 : Int)) (by omega) (c9)
          refine lv_land hx hb dL_law_607 ?_
          rw [show (kj ((m0 : Int) / ((2 ^ (c9 : Int).toNat : Nat) : Int)) &&& kj 1) = kj (((m0 : Int) / ((2 ^ (c9 : Int).toNat : Nat) : Int)) % 2) from kv_land1 (show 0 ≤ (m0 : Int) / ((2 ^ c9 : Nat) : Int) by omega) (show (m0 : Int) / ((2 ^ c9 : Nat) : Int) < 1000000000000 by omega), show ((m0 : Int) / ((2 ^ (c9 : Int).toNat : Nat) : Int)) % 2 = 1 from (bit_I (m0 := m0) (q := c9)).trans (if_pos hbit)]
          refine lv_lconst (v := kj 1) hx hb dL_law_608 rfl ?_
          refine W.lcmp hx hb dL_law_609 ?_
          rw [kJ_cmp (a := 1) (b := 1) (by omega) (by omega) (by omega) (by omega), show (if (1 : Int) < 1 then (1 : Int) else if (1 : Int) = 1 then 0 else -1) = 0 from by decide]
          refine kv_if_ne_f (tgt := 617) hx hb (by omega) (by omega) (by omega) dL_law_610 (by decide) ?_
          refine lv_iconst (v := ki 1) hx hb dL_law_613 rfl ?_
          refine lv_goto (tgt := 618) hx hb dL_law_614 (by decide) ?_
          refine lv_istore (lv' := [(15, .int (ki 1)), (14, .int (ki (c9 : Int))), (0, .ref b), (1, .ref (a 0)), (2, .ref z0), (3, .ref y), (7, .int (ki x)), (8, .int (ki nn)), (9, .long (kj (m0 : Int))), (11, .int (ki jj)), (12, .int (ki t)), (13, .ref it)]) hx hb dL_law_618 hl (by decide) rfl (fun ls hl => ?_)
          refine lv_aload_n hx hb dL_law_620 rfl (lv_at hl 4 rfl) ?_
          refine lv_iload hx hb dL_law_621 (lv_at hl 1 rfl) ?_
          have hPc := blk_P (bs := ([[(z0, .inr (12, [.ref b, .ref q1, .ref q2, .ref q3, .ref q4, .ref q5, .ref q6, .ref q7])), (q1, .inl (cy 0, 6, .inl fh)), (q2, .inl (cy 0, 30, .inl fd)), (q4, .inl (cy 0, 30, .inl fs))], (w ++ wi3), xW cy xtb a S583] : List va_W)) (rs := ([(w ++ wi3), xW cy xtb a S583] : List va_W)) (x := [(z0, .inr (12, [.ref b, .ref q1, .ref q2, .ref q3, .ref q4, .ref q5, .ref q6, .ref q7])), (q1, .inl (cy 0, 6, .inl fh)), (q2, .inl (cy 0, 30, .inl fd)), (q4, .inl (cy 0, 30, .inl fs))]) 0 rfl rfl hP
          have hDc := blk_D (bs := ([[(z0, .inr (12, [.ref b, .ref q1, .ref q2, .ref q3, .ref q4, .ref q5, .ref q6, .ref q7])), (q1, .inl (cy 0, 6, .inl fh)), (q2, .inl (cy 0, 30, .inl fd)), (q4, .inl (cy 0, 30, .inl fs))], (w ++ wi3), xW cy xtb a S583] : List va_W)) (rs := ([(w ++ wi3), xW cy xtb a S583] : List va_W)) (x := [(z0, .inr (12, [.ref b, .ref q1, .ref q2, .ref q3, .ref q4, .ref q5, .ref q6, .ref q7])), (q1, .inl (cy 0, 6, .inl fh)), (q2, .inl (cy 0, 30, .inl fd)), (q4, .inl (cy 0, 30, .inl fs))]) 0 rfl rfl hD
          refine kc_Vr hx hb hml hown hts (⟨xw_mem 947 (by decide +kernel) rfl, xw_mem 43 (by decide +kernel) rfl, xw_mem 944 (by decide +kernel) rfl, by decide +kernel⟩ : xML RL 162 yX12_beside cX12_beside 3 (some (.object "java/util/ArrayList")) 1) (xw_mem 945 (by decide +kernel) rfl) (xw_mem 946 (by decide +kernel) rfl) (va_recv hK hP (rfl : vwCl[12]? = some (RX12, TX12, 8)) (show ((List.flatten [[(z0, .inr (12, [.ref b, .ref q1, .ref q2, .ref q3, .ref q4, .ref q5, .ref q6, .ref q7])), (q1, .inl (cy 0, 6, .inl fh)), (q2, .inl (cy 0, 30, .inl fd)), (q4, .inl (cy 0, 30, .inl fs))], (w ++ wi3), xW cy xtb a S583]))[0]? = _ from rfl)) hPc hDc hS hA [.int (ki (c9 : Int))] (rest := []) _ _ (c_beside (q := c9) hc30 hh _) jP_bl (fun U hU hW => jP_to hPc hDc hS hA hK hN hZ hU hW) ⟨by omega, by omega⟩ (by omega) (by omega) rfl hl.1 rfl (Nat.le_of_ble_eq_true (rfl)) dL_law_623 (fun y2 v2 t8 H locs ht8 hw8 hB8 hz hJ hS => ?_)
          obtain ⟨hv2, hP1, hD1⟩ := hB8
          rw [ht8] at hP1
          obtain ⟨hPn, hDn⟩ := hJ _ hP1 hD1
          have hP := xP_perm hPn (blk2_perm (bs := ([[(z0, .inr (12, [.ref b, .ref q1, .ref q2, .ref q3, .ref q4, .ref q5, .ref q6, .ref q7])), (q1, .inl (cy 0, 6, .inl fh)), (q2, .inl (cy 0, 30, .inl fd)), (q4, .inl (cy 0, 30, .inl fs))], (w ++ wi3), v2, xW cy xtb a S583] : List va_W)) (r1 := ([[(z0, .inr (12, [.ref b, .ref q1, .ref q2, .ref q3, .ref q4, .ref q5, .ref q6, .ref q7])), (q1, .inl (cy 0, 6, .inl fh)), (q2, .inl (cy 0, 30, .inl fd)), (q4, .inl (cy 0, 30, .inl fs))], (w ++ wi3), xW cy xtb a S583] : List va_W)) (rs := ([(w ++ wi3), xW cy xtb a S583] : List va_W)) (x := [(z0, .inr (12, [.ref b, .ref q1, .ref q2, .ref q3, .ref q4, .ref q5, .ref q6, .ref q7])), (q1, .inl (cy 0, 6, .inl fh)), (q2, .inl (cy 0, 30, .inl fd)), (q4, .inl (cy 0, 30, .inl fs))]) (y := v2) 2 0 rfl rfl rfl rfl).symm
          have hD := xD_perm hDn (blk2_perm (bs := ([[(z0, .inr (12, [.ref b, .ref q1, .ref q2, .ref q3, .ref q4, .ref q5, .ref q6, .ref q7])), (q1, .inl (cy 0, 6, .inl fh)), (q2, .inl (cy 0, 30, .inl fd)), (q4, .inl (cy 0, 30, .inl fs))], (w ++ wi3), v2, xW cy xtb a S583] : List va_W)) (r1 := ([[(z0, .inr (12, [.ref b, .ref q1, .ref q2, .ref q3, .ref q4, .ref q5, .ref q6, .ref q7])), (q1, .inl (cy 0, 6, .inl fh)), (q2, .inl (cy 0, 30, .inl fd)), (q4, .inl (cy 0, 30, .inl fs))], (w ++ wi3), xW cy xtb a S583] : List va_W)) (rs := ([(w ++ wi3), xW cy xtb a S583] : List va_W)) (x := [(z0, .inr (12, [.ref b, .ref q1, .ref q2, .ref q3, .ref q4, .ref q5, .ref q6, .ref q7])), (q1, .inl (cy 0, 6, .inl fh)), (q2, .inl (cy 0, 30, .inl fd)), (q4, .inl (cy 0, 30, .inl fs))]) (y := v2) 2 0 rfl rfl rfl rfl).symm
          have hPc := blk_P (bs := ([[(z0, .inr (12, [.ref b, .ref q1, .ref q2, .ref q3, .ref q4, .ref q5, .ref q6, .ref q7])), (q1, .inl (cy 0, 6, .inl fh)), (q2, .inl (cy 0, 30, .inl fd)), (q4, .inl (cy 0, 30, .inl fs))], (w ++ wi3), v2, xW cy xtb a S583] : List va_W)) (rs := ([[(z0, .inr (12, [.ref b, .ref q1, .ref q2, .ref q3, .ref q4, .ref q5, .ref q6, .ref q7])), (q1, .inl (cy 0, 6, .inl fh)), (q2, .inl (cy 0, 30, .inl fd)), (q4, .inl (cy 0, 30, .inl fs))], (w ++ wi3), xW cy xtb a S583] : List va_W)) (x := v2) 2 rfl rfl hP
          have hDc := blk_D (bs := ([[(z0, .inr (12, [.ref b, .ref q1, .ref q2, .ref q3, .ref q4, .ref q5, .ref q6, .ref q7])), (q1, .inl (cy 0, 6, .inl fh)), (q2, .inl (cy 0, 30, .inl fd)), (q4, .inl (cy 0, 30, .inl fs))], (w ++ wi3), v2, xW cy xtb a S583] : List va_W)) (rs := ([[(z0, .inr (12, [.ref b, .ref q1, .ref q2, .ref q3, .ref q4, .ref q5, .ref q6, .ref q7])), (q1, .inl (cy 0, 6, .inl fh)), (q2, .inl (cy 0, 30, .inl fd)), (q4, .inl (cy 0, 30, .inl fs))], (w ++ wi3), xW cy xtb a S583] : List va_W)) (x := v2) 2 rfl rfl hD
          refine lk_iter hx hb hml hown hts hK hN hZ hS hA hl.1 (Nat.le_of_ble_eq_true (rfl)) (rest := []) (⟨xw_mem 1089 (by decide +kernel) rfl, xw_mem 46 (by decide +kernel) rfl, xw_mem 1086 (by decide +kernel) rfl, by decide +kernel⟩ : xML RL 146 yJx4a65c_iterator_32c93 cJx4a65c_iterator_32c93 1 (some (.object "java/util/Iterator")) 0) hv2 hPc hDc ⟨by omega, by omega⟩ ⟨by omega, by omega⟩ dL_law_626 (fun it2 vi H locs hit hPn hDn hS => ?_)
          have hP := blk_P2 (bs := ([[(z0, .inr (12, [.ref b, .ref q1, .ref q2, .ref q3, .ref q4, .ref q5, .ref q6, .ref q7])), (q1, .inl (cy 0, 6, .inl fh)), (q2, .inl (cy 0, 30, .inl fd)), (q4, .inl (cy 0, 30, .inl fs))], (w ++ wi3), (v2 ++ vi), xW cy xtb a S583] : List va_W)) (rs := ([[(z0, .inr (12, [.ref b, .ref q1, .ref q2, .ref q3, .ref q4, .ref q5, .ref q6, .ref q7])), (q1, .inl (cy 0, 6, .inl fh)), (q2, .inl (cy 0, 30, .inl fd)), (q4, .inl (cy 0, 30, .inl fs))], (w ++ wi3), xW cy xtb a S583] : List va_W)) (x := (v2 ++ vi)) 2 rfl rfl hPn
          have hD := blk_D2 (bs := ([[(z0, .inr (12, [.ref b, .ref q1, .ref q2, .ref q3, .ref q4, .ref q5, .ref q6, .ref q7])), (q1, .inl (cy 0, 6, .inl fh)), (q2, .inl (cy 0, 30, .inl fd)), (q4, .inl (cy 0, 30, .inl fs))], (w ++ wi3), (v2 ++ vi), xW cy xtb a S583] : List va_W)) (rs := ([[(z0, .inr (12, [.ref b, .ref q1, .ref q2, .ref q3, .ref q4, .ref q5, .ref q6, .ref q7])), (q1, .inl (cy 0, 6, .inl fh)), (q2, .inl (cy 0, 30, .inl fd)), (q4, .inl (cy 0, 30, .inl fs))], (w ++ wi3), xW cy xtb a S583] : List va_W)) (x := (v2 ++ vi)) 2 rfl rfl hDn
          refine lv_astore (lv' := [(16, .ref it2), (15, .int (ki 1)), (14, .int (ki (c9 : Int))), (0, .ref b), (1, .ref (a 0)), (2, .ref z0), (3, .ref y), (7, .int (ki x)), (8, .int (ki nn)), (9, .long (kj (m0 : Int))), (11, .int (ki jj)), (12, .int (ki t)), (13, .ref it)]) hx hb dL_law_629 hl (by decide) rfl (fun ls hl => ?_)
          refine RA_1 hx hb hml hown hts hK hN hZ hX hbl hbA hNs hEx hA hI hR hL hF ⟨by omega, by omega⟩ hm0 hjj hv2 (fun S2 vi t5 hB hi hit ht5 hq5 H locs ls hl hP hD hS => ?_) (bsL L xs c9).length 0 (by omega) _ _ 1 hB hi hit (Or.inr rfl) ⟨fun _ => Or.inl ⟨hcj, hbit⟩, fun _ => rfl⟩ _ _ ls (lv_sub hl [3, 4, 5, 6, 7, 8, 9, 10, 11, 12, 2, 1, 0] rfl) hP hD hS
          rcases ht5 with h5 | h5
          · subst h5
            refine lv_iload hx hb dL_law_688 (lv_at hl 8 rfl) ?_
            refine lv_iload hx hb dL_law_690 (lv_at hl 11 rfl) ?_
            refine lv_iand hx hb dL_law_692 ?_
            rw [show ki t &&& ki 0 = ki 0 from by rcases ht9 with rfl | rfl <;> rfl]
            refine lv_istore (lv' := [(12, .int (ki 0)), (0, .ref b), (1, .ref (a 0)), (2, .ref z0), (3, .ref y), (7, .int (ki x)), (8, .int (ki nn)), (9, .long (kj (m0 : Int))), (11, .int (ki jj)), (13, .ref it), (14, .int (ki (c9 : Int))), (15, .int (ki 0))]) hx hb dL_law_693 hl (by decide) rfl (fun ls hl => ?_)
            refine lv_goto (tgt := 554) hx hb dL_law_695 (by decide) ?_
            have hP := drp_P (bs := ([[(z0, .inr (12, [.ref b, .ref q1, .ref q2, .ref q3, .ref q4, .ref q5, .ref q6, .ref q7])), (q1, .inl (cy 0, 6, .inl fh)), (q2, .inl (cy 0, 30, .inl fd)), (q4, .inl (cy 0, 30, .inl fs))], (w ++ wi3), (v2 ++ vi), xW cy xtb a S2] : List va_W)) (rs := ([[(z0, .inr (12, [.ref b, .ref q1, .ref q2, .ref q3, .ref q4, .ref q5, .ref q6, .ref q7])), (q1, .inl (cy 0, 6, .inl fh)), (q2, .inl (cy 0, 30, .inl fd)), (q4, .inl (cy 0, 30, .inl fs))], (w ++ wi3), xW cy xtb a S2] : List va_W)) (x := (v2 ++ vi)) 2 rfl rfl hP
            have hD := drp_D (bs := ([[(z0, .inr (12, [.ref b, .ref q1, .ref q2, .ref q3, .ref q4, .ref q5, .ref q6, .ref q7])), (q1, .inl (cy 0, 6, .inl fh)), (q2, .inl (cy 0, 30, .inl fd)), (q4, .inl (cy 0, 30, .inl fs))], (w ++ wi3), (v2 ++ vi), xW cy xtb a S2] : List va_W)) (rs := ([[(z0, .inr (12, [.ref b, .ref q1, .ref q2, .ref q3, .ref q4, .ref q5, .ref q6, .ref q7])), (q1, .inl (cy 0, 6, .inl fh)), (q2, .inl (cy 0, 30, .inl fd)), (q4, .inl (cy 0, 30, .inl fs))], (w ++ wi3), xW cy xtb a S2] : List va_W)) (x := (v2 ++ vi)) 2 rfl rfl hD
            exact ih (i + 1) (by omega) _ _ 0 _ _ (by omega) (by omega) hB hi hio (Or.inl rfl) (by rw [chkP_s hc0]; exact ⟨fun h => absurd h (by decide), fun h => absurd (hq5.mpr (tkP_e.mpr (h.2 hx4))) (by decide)⟩) _ _ ls (lv_sub hl [1, 2, 3, 4, 5, 6, 7, 8, 0, 9] rfl) hP hD hS
          · subst h5
            refine lv_iload hx hb dL_law_688 (lv_at hl 8 rfl) ?_
            refine lv_iload hx hb dL_law_690 (lv_at hl 11 rfl) ?_
            refine lv_iand hx hb dL_law_692 ?_
            rw [show ki t &&& ki 1 = ki t from by rcases ht9 with rfl | rfl <;> rfl]
            refine lv_istore (lv' := [(12, .int (ki t)), (0, .ref b), (1, .ref (a 0)), (2, .ref z0), (3, .ref y), (7, .int (ki x)), (8, .int (ki nn)), (9, .long (kj (m0 : Int))), (11, .int (ki jj)), (13, .ref it), (14, .int (ki (c9 : Int))), (15, .int (ki 1))]) hx hb dL_law_693 hl (by decide) rfl (fun ls hl => ?_)
            refine lv_goto (tgt := 554) hx hb dL_law_695 (by decide) ?_
            have hP := drp_P (bs := ([[(z0, .inr (12, [.ref b, .ref q1, .ref q2, .ref q3, .ref q4, .ref q5, .ref q6, .ref q7])), (q1, .inl (cy 0, 6, .inl fh)), (q2, .inl (cy 0, 30, .inl fd)), (q4, .inl (cy 0, 30, .inl fs))], (w ++ wi3), (v2 ++ vi), xW cy xtb a S2] : List va_W)) (rs := ([[(z0, .inr (12, [.ref b, .ref q1, .ref q2, .ref q3, .ref q4, .ref q5, .ref q6, .ref q7])), (q1, .inl (cy 0, 6, .inl fh)), (q2, .inl (cy 0, 30, .inl fd)), (q4, .inl (cy 0, 30, .inl fs))], (w ++ wi3), xW cy xtb a S2] : List va_W)) (x := (v2 ++ vi)) 2 rfl rfl hP
            have hD := drp_D (bs := ([[(z0, .inr (12, [.ref b, .ref q1, .ref q2, .ref q3, .ref q4, .ref q5, .ref q6, .ref q7])), (q1, .inl (cy 0, 6, .inl fh)), (q2, .inl (cy 0, 30, .inl fd)), (q4, .inl (cy 0, 30, .inl fs))], (w ++ wi3), (v2 ++ vi), xW cy xtb a S2] : List va_W)) (rs := ([[(z0, .inr (12, [.ref b, .ref q1, .ref q2, .ref q3, .ref q4, .ref q5, .ref q6, .ref q7])), (q1, .inl (cy 0, 6, .inl fh)), (q2, .inl (cy 0, 30, .inl fd)), (q4, .inl (cy 0, 30, .inl fs))], (w ++ wi3), xW cy xtb a S2] : List va_W)) (x := (v2 ++ vi)) 2 rfl rfl hD
            exact ih (i + 1) (by omega) _ _ t _ _ (by omega) (by omega) hB hi hio ht9 (by rw [chkP_s hc0]; exact ⟨fun h => ⟨hq9.mp h, fun _ => tkP_e.mp (hq5.mp rfl)⟩, fun h => hq9.mpr h.1⟩) _ _ ls (lv_sub hl [1, 2, 3, 4, 5, 6, 7, 8, 0, 9] rfl) hP hD hS
        · have hno : ¬ ((c9 : Int) ≠ jj ∧ m0.testBit c9 = true) := fun h => hbit h.2
          refine lv_iload hx hb dL_law_594 (lv_at hl 0 rfl) ?_
          refine lv_iload hx hb dL_law_596 (lv_at hl 8 rfl) ?_
          refine kv_icmp_eq_f (tgt := 617) hx hb (by omega) (by omega) (by omega) (by omega) (by omega) dL_law_598 (by decide) ?_
          refine lv_lload hx hb dL_law_601 (lv_at hl 7 rfl) ?_
          refine lv_iload hx hb dL_law_603 (lv_at hl 0 rfl) ?_
          refine lv_lshr (v := kj ((m0 : Int) / ((2 ^ (c9 : Int).toNat : Nat) : Int))) hx hb dL_law_605 (kv_lshr (by omega) (by omega) (by omega) (by omega)) ?_
          refine lv_lconst (v := kj 1) hx hb dL_law_606 rfl ?_
          have hdv := dv_b (x := (m0 : Int)) (by omega) (c9)
          refine lv_land hx hb dL_law_607 ?_
          rw [show (kj ((m0 : Int) / ((2 ^ (c9 : Int).toNat : Nat) : Int)) &&& kj 1) = kj (((m0 : Int) / ((2 ^ (c9 : Int).toNat : Nat) : Int)) % 2) from kv_land1 (show 0 ≤ (m0 : Int) / ((2 ^ c9 : Nat) : Int) by omega) (show (m0 : Int) / ((2 ^ c9 : Nat) : Int) < 1000000000000 by omega), show ((m0 : Int) / ((2 ^ (c9 : Int).toNat : Nat) : Int)) % 2 = 0 from (bit_I (m0 := m0) (q := c9)).trans (if_neg hbit)]
          refine lv_lconst (v := kj 1) hx hb dL_law_608 rfl ?_
          refine W.lcmp hx hb dL_law_609 ?_
          rw [kJ_cmp (a := 0) (b := 1) (by omega) (by omega) (by omega) (by omega), show (if (1 : Int) < 0 then (1 : Int) else if (0 : Int) = 1 then 0 else -1) = (-1) from by decide]
          refine kv_if_ne_t (tgt := 617) hx hb (by omega) (by omega) (by omega) dL_law_610 (by decide) ?_
          refine lv_iconst (v := ki 0) hx hb dL_law_617 rfl ?_
          refine lv_istore (lv' := [(15, .int (ki 0)), (14, .int (ki (c9 : Int))), (0, .ref b), (1, .ref (a 0)), (2, .ref z0), (3, .ref y), (7, .int (ki x)), (8, .int (ki nn)), (9, .long (kj (m0 : Int))), (11, .int (ki jj)), (12, .int (ki t)), (13, .ref it)]) hx hb dL_law_618 hl (by decide) rfl (fun ls hl => ?_)
          refine lv_aload_n hx hb dL_law_620 rfl (lv_at hl 4 rfl) ?_
          refine lv_iload hx hb dL_law_621 (lv_at hl 1 rfl) ?_
          have hPc := blk_P (bs := ([[(z0, .inr (12, [.ref b, .ref q1, .ref q2, .ref q3, .ref q4, .ref q5, .ref q6, .ref q7])), (q1, .inl (cy 0, 6, .inl fh)), (q2, .inl (cy 0, 30, .inl fd)), (q4, .inl (cy 0, 30, .inl fs))], (w ++ wi3), xW cy xtb a S583] : List va_W)) (rs := ([(w ++ wi3), xW cy xtb a S583] : List va_W)) (x := [(z0, .inr (12, [.ref b, .ref q1, .ref q2, .ref q3, .ref q4, .ref q5, .ref q6, .ref q7])), (q1, .inl (cy 0, 6, .inl fh)), (q2, .inl (cy 0, 30, .inl fd)), (q4, .inl (cy 0, 30, .inl fs))]) 0 rfl rfl hP
          have hDc := blk_D (bs := ([[(z0, .inr (12, [.ref b, .ref q1, .ref q2, .ref q3, .ref q4, .ref q5, .ref q6, .ref q7])), (q1, .inl (cy 0, 6, .inl fh)), (q2, .inl (cy 0, 30, .inl fd)), (q4, .inl (cy 0, 30, .inl fs))], (w ++ wi3), xW cy xtb a S583] : List va_W)) (rs := ([(w ++ wi3), xW cy xtb a S583] : List va_W)) (x := [(z0, .inr (12, [.ref b, .ref q1, .ref q2, .ref q3, .ref q4, .ref q5, .ref q6, .ref q7])), (q1, .inl (cy 0, 6, .inl fh)), (q2, .inl (cy 0, 30, .inl fd)), (q4, .inl (cy 0, 30, .inl fs))]) 0 rfl rfl hD
          refine kc_Vr hx hb hml hown hts (⟨xw_mem 947 (by decide +kernel) rfl, xw_mem 43 (by decide +kernel) rfl, xw_mem 944 (by decide +kernel) rfl, by decide +kernel⟩ : xML RL 162 yX12_beside cX12_beside 3 (some (.object "java/util/ArrayList")) 1) (xw_mem 945 (by decide +kernel) rfl) (xw_mem 946 (by decide +kernel) rfl) (va_recv hK hP (rfl : vwCl[12]? = some (RX12, TX12, 8)) (show ((List.flatten [[(z0, .inr (12, [.ref b, .ref q1, .ref q2, .ref q3, .ref q4, .ref q5, .ref q6, .ref q7])), (q1, .inl (cy 0, 6, .inl fh)), (q2, .inl (cy 0, 30, .inl fd)), (q4, .inl (cy 0, 30, .inl fs))], (w ++ wi3), xW cy xtb a S583]))[0]? = _ from rfl)) hPc hDc hS hA [.int (ki (c9 : Int))] (rest := []) _ _ (c_beside (q := c9) hc30 hh _) jP_bl (fun U hU hW => jP_to hPc hDc hS hA hK hN hZ hU hW) ⟨by omega, by omega⟩ (by omega) (by omega) rfl hl.1 rfl (Nat.le_of_ble_eq_true (rfl)) dL_law_623 (fun y2 v2 t8 H locs ht8 hw8 hB8 hz hJ hS => ?_)
          obtain ⟨hv2, hP1, hD1⟩ := hB8
          rw [ht8] at hP1
          obtain ⟨hPn, hDn⟩ := hJ _ hP1 hD1
          have hP := xP_perm hPn (blk2_perm (bs := ([[(z0, .inr (12, [.ref b, .ref q1, .ref q2, .ref q3, .ref q4, .ref q5, .ref q6, .ref q7])), (q1, .inl (cy 0, 6, .inl fh)), (q2, .inl (cy 0, 30, .inl fd)), (q4, .inl (cy 0, 30, .inl fs))], (w ++ wi3), v2, xW cy xtb a S583] : List va_W)) (r1 := ([[(z0, .inr (12, [.ref b, .ref q1, .ref q2, .ref q3, .ref q4, .ref q5, .ref q6, .ref q7])), (q1, .inl (cy 0, 6, .inl fh)), (q2, .inl (cy 0, 30, .inl fd)), (q4, .inl (cy 0, 30, .inl fs))], (w ++ wi3), xW cy xtb a S583] : List va_W)) (rs := ([(w ++ wi3), xW cy xtb a S583] : List va_W)) (x := [(z0, .inr (12, [.ref b, .ref q1, .ref q2, .ref q3, .ref q4, .ref q5, .ref q6, .ref q7])), (q1, .inl (cy 0, 6, .inl fh)), (q2, .inl (cy 0, 30, .inl fd)), (q4, .inl (cy 0, 30, .inl fs))]) (y := v2) 2 0 rfl rfl rfl rfl).symm
          have hD := xD_perm hDn (blk2_perm (bs := ([[(z0, .inr (12, [.ref b, .ref q1, .ref q2, .ref q3, .ref q4, .ref q5, .ref q6, .ref q7])), (q1, .inl (cy 0, 6, .inl fh)), (q2, .inl (cy 0, 30, .inl fd)), (q4, .inl (cy 0, 30, .inl fs))], (w ++ wi3), v2, xW cy xtb a S583] : List va_W)) (r1 := ([[(z0, .inr (12, [.ref b, .ref q1, .ref q2, .ref q3, .ref q4, .ref q5, .ref q6, .ref q7])), (q1, .inl (cy 0, 6, .inl fh)), (q2, .inl (cy 0, 30, .inl fd)), (q4, .inl (cy 0, 30, .inl fs))], (w ++ wi3), xW cy xtb a S583] : List va_W)) (rs := ([(w ++ wi3), xW cy xtb a S583] : List va_W)) (x := [(z0, .inr (12, [.ref b, .ref q1, .ref q2, .ref q3, .ref q4, .ref q5, .ref q6, .ref q7])), (q1, .inl (cy 0, 6, .inl fh)), (q2, .inl (cy 0, 30, .inl fd)), (q4, .inl (cy 0, 30, .inl fs))]) (y := v2) 2 0 rfl rfl rfl rfl).symm
          have hPc := blk_P (bs := ([[(z0, .inr (12, [.ref b, .ref q1, .ref q2, .ref q3, .ref q4, .ref q5, .ref q6, .ref q7])), (q1, .inl (cy 0, 6, .inl fh)), (q2, .inl (cy 0, 30, .inl fd)), (q4, .inl (cy 0, 30, .inl fs))], (w ++ wi3), v2, xW cy xtb a S583] : List va_W)) (rs := ([[(z0, .inr (12, [.ref b, .ref q1, .ref q2, .ref q3, .ref q4, .ref q5, .ref q6, .ref q7])), (q1, .inl (cy 0, 6, .inl fh)), (q2, .inl (cy 0, 30, .inl fd)), (q4, .inl (cy 0, 30, .inl fs))], (w ++ wi3), xW cy xtb a S583] : List va_W)) (x := v2) 2 rfl rfl hP
          have hDc := blk_D (bs := ([[(z0, .inr (12, [.ref b, .ref q1, .ref q2, .ref q3, .ref q4, .ref q5, .ref q6, .ref q7])), (q1, .inl (cy 0, 6, .inl fh)), (q2, .inl (cy 0, 30, .inl fd)), (q4, .inl (cy 0, 30, .inl fs))], (w ++ wi3), v2, xW cy xtb a S583] : List va_W)) (rs := ([[(z0, .inr (12, [.ref b, .ref q1, .ref q2, .ref q3, .ref q4, .ref q5, .ref q6, .ref q7])), (q1, .inl (cy 0, 6, .inl fh)), (q2, .inl (cy 0, 30, .inl fd)), (q4, .inl (cy 0, 30, .inl fs))], (w ++ wi3), xW cy xtb a S583] : List va_W)) (x := v2) 2 rfl rfl hD
          refine lk_iter hx hb hml hown hts hK hN hZ hS hA hl.1 (Nat.le_of_ble_eq_true (rfl)) (rest := []) (⟨xw_mem 1089 (by decide +kernel) rfl, xw_mem 46 (by decide +kernel) rfl, xw_mem 1086 (by decide +kernel) rfl, by decide +kernel⟩ : xML RL 146 yJx4a65c_iterator_32c93 cJx4a65c_iterator_32c93 1 (some (.object "java/util/Iterator")) 0) hv2 hPc hDc ⟨by omega, by omega⟩ ⟨by omega, by omega⟩ dL_law_626 (fun it2 vi H locs hit hPn hDn hS => ?_)
          have hP := blk_P2 (bs := ([[(z0, .inr (12, [.ref b, .ref q1, .ref q2, .ref q3, .ref q4, .ref q5, .ref q6, .ref q7])), (q1, .inl (cy 0, 6, .inl fh)), (q2, .inl (cy 0, 30, .inl fd)), (q4, .inl (cy 0, 30, .inl fs))], (w ++ wi3), (v2 ++ vi), xW cy xtb a S583] : List va_W)) (rs := ([[(z0, .inr (12, [.ref b, .ref q1, .ref q2, .ref q3, .ref q4, .ref q5, .ref q6, .ref q7])), (q1, .inl (cy 0, 6, .inl fh)), (q2, .inl (cy 0, 30, .inl fd)), (q4, .inl (cy 0, 30, .inl fs))], (w ++ wi3), xW cy xtb a S583] : List va_W)) (x := (v2 ++ vi)) 2 rfl rfl hPn
          have hD := blk_D2 (bs := ([[(z0, .inr (12, [.ref b, .ref q1, .ref q2, .ref q3, .ref q4, .ref q5, .ref q6, .ref q7])), (q1, .inl (cy 0, 6, .inl fh)), (q2, .inl (cy 0, 30, .inl fd)), (q4, .inl (cy 0, 30, .inl fs))], (w ++ wi3), (v2 ++ vi), xW cy xtb a S583] : List va_W)) (rs := ([[(z0, .inr (12, [.ref b, .ref q1, .ref q2, .ref q3, .ref q4, .ref q5, .ref q6, .ref q7])), (q1, .inl (cy 0, 6, .inl fh)), (q2, .inl (cy 0, 30, .inl fd)), (q4, .inl (cy 0, 30, .inl fs))], (w ++ wi3), xW cy xtb a S583] : List va_W)) (x := (v2 ++ vi)) 2 rfl rfl hDn
          refine lv_astore (lv' := [(16, .ref it2), (15, .int (ki 0)), (14, .int (ki (c9 : Int))), (0, .ref b), (1, .ref (a 0)), (2, .ref z0), (3, .ref y), (7, .int (ki x)), (8, .int (ki nn)), (9, .long (kj (m0 : Int))), (11, .int (ki jj)), (12, .int (ki t)), (13, .ref it)]) hx hb dL_law_629 hl (by decide) rfl (fun ls hl => ?_)
          refine RA_1 hx hb hml hown hts hK hN hZ hX hbl hbA hNs hEx hA hI hR hL hF ⟨by omega, by omega⟩ hm0 hjj hv2 (fun S2 vi t5 hB hi hit ht5 hq5 H locs ls hl hP hD hS => ?_) (bsL L xs c9).length 0 (by omega) _ _ 0 hB hi hit (Or.inl rfl) ⟨fun h => absurd h (by decide), fun h => by
            rcases h with h | ⟨t7, h7, _⟩
            · exact absurd h hno
            · exact absurd h7 (Nat.not_lt_zero t7)⟩ _ _ ls (lv_sub hl [3, 4, 5, 6, 7, 8, 9, 10, 11, 12, 2, 1, 0] rfl) hP hD hS
          rcases ht5 with h5 | h5
          · subst h5
            refine lv_iload hx hb dL_law_688 (lv_at hl 8 rfl) ?_
            refine lv_iload hx hb dL_law_690 (lv_at hl 11 rfl) ?_
            refine lv_iand hx hb dL_law_692 ?_
            rw [show ki t &&& ki 0 = ki 0 from by rcases ht9 with rfl | rfl <;> rfl]
            refine lv_istore (lv' := [(12, .int (ki 0)), (0, .ref b), (1, .ref (a 0)), (2, .ref z0), (3, .ref y), (7, .int (ki x)), (8, .int (ki nn)), (9, .long (kj (m0 : Int))), (11, .int (ki jj)), (13, .ref it), (14, .int (ki (c9 : Int))), (15, .int (ki 0))]) hx hb dL_law_693 hl (by decide) rfl (fun ls hl => ?_)
            refine lv_goto (tgt := 554) hx hb dL_law_695 (by decide) ?_
            have hP := drp_P (bs := ([[(z0, .inr (12, [.ref b, .ref q1, .ref q2, .ref q3, .ref q4, .ref q5, .ref q6, .ref q7])), (q1, .inl (cy 0, 6, .inl fh)), (q2, .inl (cy 0, 30, .inl fd)), (q4, .inl (cy 0, 30, .inl fs))], (w ++ wi3), (v2 ++ vi), xW cy xtb a S2] : List va_W)) (rs := ([[(z0, .inr (12, [.ref b, .ref q1, .ref q2, .ref q3, .ref q4, .ref q5, .ref q6, .ref q7])), (q1, .inl (cy 0, 6, .inl fh)), (q2, .inl (cy 0, 30, .inl fd)), (q4, .inl (cy 0, 30, .inl fs))], (w ++ wi3), xW cy xtb a S2] : List va_W)) (x := (v2 ++ vi)) 2 rfl rfl hP
            have hD := drp_D (bs := ([[(z0, .inr (12, [.ref b, .ref q1, .ref q2, .ref q3, .ref q4, .ref q5, .ref q6, .ref q7])), (q1, .inl (cy 0, 6, .inl fh)), (q2, .inl (cy 0, 30, .inl fd)), (q4, .inl (cy 0, 30, .inl fs))], (w ++ wi3), (v2 ++ vi), xW cy xtb a S2] : List va_W)) (rs := ([[(z0, .inr (12, [.ref b, .ref q1, .ref q2, .ref q3, .ref q4, .ref q5, .ref q6, .ref q7])), (q1, .inl (cy 0, 6, .inl fh)), (q2, .inl (cy 0, 30, .inl fd)), (q4, .inl (cy 0, 30, .inl fs))], (w ++ wi3), xW cy xtb a S2] : List va_W)) (x := (v2 ++ vi)) 2 rfl rfl hD
            exact ih (i + 1) (by omega) _ _ 0 _ _ (by omega) (by omega) hB hi hio (Or.inl rfl) (by rw [chkP_s hc0]; exact ⟨fun h => absurd h (by decide), fun h => absurd (hq5.mpr (tkP_e.mpr (h.2 hx4))) (by decide)⟩) _ _ ls (lv_sub hl [1, 2, 3, 4, 5, 6, 7, 8, 0, 9] rfl) hP hD hS
          · subst h5
            refine lv_iload hx hb dL_law_688 (lv_at hl 8 rfl) ?_
            refine lv_iload hx hb dL_law_690 (lv_at hl 11 rfl) ?_
            refine lv_iand hx hb dL_law_692 ?_
            rw [show ki t &&& ki 1 = ki t from by rcases ht9 with rfl | rfl <;> rfl]
            refine lv_istore (lv' := [(12, .int (ki t)), (0, .ref b), (1, .ref (a 0)), (2, .ref z0), (3, .ref y), (7, .int (ki x)), (8, .int (ki nn)), (9, .long (kj (m0 : Int))), (11, .int (ki jj)), (13, .ref it), (14, .int (ki (c9 : Int))), (15, .int (ki 1))]) hx hb dL_law_693 hl (by decide) rfl (fun ls hl => ?_)
            refine lv_goto (tgt := 554) hx hb dL_law_695 (by decide) ?_
            have hP := drp_P (bs := ([[(z0, .inr (12, [.ref b, .ref q1, .ref q2, .ref q3, .ref q4, .ref q5, .ref q6, .ref q7])), (q1, .inl (cy 0, 6, .inl fh)), (q2, .inl (cy 0, 30, .inl fd)), (q4, .inl (cy 0, 30, .inl fs))], (w ++ wi3), (v2 ++ vi), xW cy xtb a S2] : List va_W)) (rs := ([[(z0, .inr (12, [.ref b, .ref q1, .ref q2, .ref q3, .ref q4, .ref q5, .ref q6, .ref q7])), (q1, .inl (cy 0, 6, .inl fh)), (q2, .inl (cy 0, 30, .inl fd)), (q4, .inl (cy 0, 30, .inl fs))], (w ++ wi3), xW cy xtb a S2] : List va_W)) (x := (v2 ++ vi)) 2 rfl rfl hP
            have hD := drp_D (bs := ([[(z0, .inr (12, [.ref b, .ref q1, .ref q2, .ref q3, .ref q4, .ref q5, .ref q6, .ref q7])), (q1, .inl (cy 0, 6, .inl fh)), (q2, .inl (cy 0, 30, .inl fd)), (q4, .inl (cy 0, 30, .inl fs))], (w ++ wi3), (v2 ++ vi), xW cy xtb a S2] : List va_W)) (rs := ([[(z0, .inr (12, [.ref b, .ref q1, .ref q2, .ref q3, .ref q4, .ref q5, .ref q6, .ref q7])), (q1, .inl (cy 0, 6, .inl fh)), (q2, .inl (cy 0, 30, .inl fd)), (q4, .inl (cy 0, 30, .inl fs))], (w ++ wi3), xW cy xtb a S2] : List va_W)) (x := (v2 ++ vi)) 2 rfl rfl hD
            exact ih (i + 1) (by omega) _ _ t _ _ (by omega) (by omega) hB hi hio ht9 (by rw [chkP_s hc0]; exact ⟨fun h => ⟨hq9.mp h, fun _ => tkP_e.mp (hq5.mp rfl)⟩, fun h => hq9.mpr h.1⟩) _ _ ls (lv_sub hl [1, 2, 3, 4, 5, 6, 7, 8, 0, 9] rfl) hP hD hS
    · refine lv_goto (tgt := 554) hx hb dL_law_591 (by decide) ?_
      exact ih (i + 1) (by omega) _ _ t _ _ (by omega) (by omega) hB hi hio ht9 (by rw [chkP_s hc0]; exact ⟨fun h => ⟨hq9.mp h, fun h7 => absurd h7 (by omega)⟩, fun h => hq9.mpr h.1⟩) _ _ ls (lv_sub hl [1, 2, 3, 4, 5, 6, 7, 8, 9, 10] rfl) hP hD hS
end LAW
