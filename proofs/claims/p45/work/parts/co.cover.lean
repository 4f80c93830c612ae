/-! part co: the law looks at the cover (made by wip/p45/gen_co.py) -/
section LAW
variable {l : Launch} {D : va_G} {cy : Nat → ClassId} {mi zE zc : Nat} {ad z a : Nat → Nat} {b L : Nat} {xs : Nat → Int32}
variable {p : Program} {e : Env} {R : Room} {s : State} {m : MethodId} {args : Array Value} {below : List Frame} {meth : Method} {c : Code} {Q : State → Prop} {A : Nat → Prop}
variable {z0 q1 q2 q3 q4 q5 q6 q7 y : Nat} {fh fd fs : Nat → Int32} {w : va_W} {gn : (Int → Int) → Int} {η : Hy} {S : xSt} {k n : Nat}
theorem xgoodF {own C : String} {idx : Nat} {x y : MethodName} {w : Cond} (h1 : Cond.methodLink own idx x ∈ xTB) (h2 : Cond.selects C x y ∈ xTB) (h3 : Cond.instanceMethod y ∈ xTB) (h4 : Cond.initialized y.cls ∈ xTB) (h5 : w ∈ xTB) : GoodIn xTB (va_wsF own idx C x y (w :: xTB)) := by
  intro v hv
  have hv : v ∈ xTB := by
    unfold va_wsF at hv
    rcases List.mem_append.mp hv with q | q
    · rcases List.mem_cons.mp q with e | q
      · rw [e]; exact h1
      rcases List.mem_cons.mp q with e | q
      · rw [e]; exact h2
      rcases List.mem_cons.mp q with e | q
      · rw [e]; exact h3
      rcases List.mem_cons.mp q with e | q
      · rw [e]; exact h4
      cases q
    · rcases List.mem_cons.mp q with e | q
      · rw [e]; exact h5
      · exact q
  exact xgood h5 v (List.mem_cons_of_mem _ hv)
theorem blk_hP {D : va_G} {cl : List vw_C} {H : Heap} {bs rs bs2 : List va_W} {x t : va_W} (i : Nat) (hi : bs[i]? = some (x ++ t)) (hr : bs.eraseIdx i = rs) (hi2 : bs2[i]? = some x) (hr2 : bs2.eraseIdx i = rs) (h : va_P D cl bs.flatten H) : va_P D cl bs2.flatten H := blk_P2 i hi2 hr2 (xP_left (w2 := t) (by
  rw [List.append_assoc]; exact blk_P i hi hr h))
theorem blk_hD {A : Nat → Prop} {bs rs bs2 : List va_W} {x t : va_W} (i : Nat) (hi : bs[i]? = some (x ++ t)) (hr : bs.eraseIdx i = rs) (hi2 : bs2[i]? = some x) (hr2 : bs2.eraseIdx i = rs) (h : va_D A bs.flatten) : va_D A bs2.flatten := blk_D2 i hi2 hr2 (xD_left (w2 := t) (by
  rw [List.append_assoc]; exact blk_D i hi hr h))
theorem bit_I {m0 q : Nat} : (m0 : Int) / ((2 ^ q : Nat) : Int) % 2 = if m0.testBit q = true then 1 else 0 := by
  rw [← Int.natCast_ediv]
  by_cases h : m0.testBit q = true
  · rw [if_pos h]
    have := (tbd m0 q).mp h
    omega
  · rw [if_neg h]
    have := mt (tbd m0 q).mpr h
    omega
def tkP (L : Nat) (xs : Nat → Int32) (m0 : Nat) (j : Int) (c i : Nat) : Prop := ((c : Int) ≠ j ∧ m0.testBit c = true) ∨ ∃ t : Nat, t < i ∧ ∃ q : Nat, (bsL L xs c)[t]? = some q ∧ (q : Int) ≠ j ∧ m0.testBit q = true
theorem tkP_e {L : Nat} {xs : Nat → Int32} {m0 c : Nat} {j : Int} : tkP L xs m0 j c (bsL L xs c).length ↔ tchP L xs m0 j c := by
  unfold tkP tchP
  constructor
  · rintro (h | ⟨t, ht, q, h1, h2, h3⟩)
    · exact Or.inl h
    · exact Or.inr ⟨q, List.mem_of_getElem? h1, h2, h3⟩
  · rintro (h | ⟨q, h1, h2, h3⟩)
    · exact Or.inl h
    · obtain ⟨t, ht⟩ := List.getElem?_of_mem h1
      exact Or.inr ⟨t, (List.getElem?_eq_some_iff.mp ht).1, q, ht, h2, h3⟩
theorem tkP_s {L : Nat} {xs : Nat → Int32} {m0 c i q : Nat} {j : Int} (hq : (bsL L xs c)[i]? = some q) : tkP L xs m0 j c (i + 1) ↔ (tkP L xs m0 j c i ∨ ((q : Int) ≠ j ∧ m0.testBit q = true)) := by
  unfold tkP
  constructor
  · rintro (h | ⟨t, ht, q', h1, h2, h3⟩)
    · exact Or.inl (Or.inl h)
    · by_cases e : t = i
      · subst e
        cases hq.symm.trans h1
        exact Or.inr ⟨h2, h3⟩
      · exact Or.inl (Or.inr ⟨t, by omega, q', h1, h2, h3⟩)
  · rintro ((h | ⟨t, ht, r⟩) | ⟨h1, h2⟩)
    · exact Or.inl h
    · exact Or.inr ⟨t, by omega, r⟩
    · exact Or.inr ⟨i, by omega, q, hq, h1, h2⟩
def chkP (L : Nat) (xs : Nat → Int32) (η : Hy) (x : Int) (m0 : Nat) (j : Int) (i : Nat) : Prop := ∀ t : Nat, t < i → ∀ c : Nat, (csI L xs 30)[t]? = some c → x ≤ η 4 c → tchP L xs m0 j c
theorem chkP_e {L : Nat} {xs : Nat → Int32} {η : Hy} {x j : Int} {m0 : Nat} : chkP L xs η x m0 j (csI L xs 30).length ↔ covP L xs η x m0 j (csI L xs 30) := by
  constructor
  · intro h c hc hx
    obtain ⟨t, ht⟩ := List.getElem?_of_mem hc
    exact h t (List.getElem?_eq_some_iff.mp ht).1 c ht hx
  · intro h t _ c hc hx
    exact h c (List.mem_of_getElem? hc) hx
theorem chkP_s {L : Nat} {xs : Nat → Int32} {η : Hy} {x j : Int} {m0 i c : Nat} (hc : (csI L xs 30)[i]? = some c) : chkP L xs η x m0 j (i + 1) ↔ (chkP L xs η x m0 j i ∧ (x ≤ η 4 c → tchP L xs m0 j c)) := by
  constructor
  · intro h
    exact ⟨fun t ht => h t (by omega), h i (by omega) c hc⟩
  · rintro ⟨h1, h2⟩ t ht c' hc' hx
    by_cases e : t = i
    · subst e
      cases hc.symm.trans hc'
      exact h2 hx
    · exact h1 t (by omega) c' hc' hx
variable {x jj nn : Int} {m0 c9 it it2 y2 : Nat} {wi v2 : va_W}
variable {t12 : Int}
set_option maxHeartbeats 4000000 in
set_option maxRecDepth 20000 in
theorem RA_1 (hx : p.tables.exec = Jvm.exec) (hb : c.code = cL_law) (hml : c.maxLocals = 21) (hown : s.vm.findClass RL = some m.cls) (hts : ∀ w ∈ xTB, w.before args s = true) (hK : va_K D vwCl (xtyL cy) s) (hN : jN mi s) (hZ : jZ zE zc ad A s s.heap) (hX : va_X b L xs s s.heap) (hbl : b < s.heap.size) (hbA : ¬ A b) (hNs : nS s) (hEx : xEx z A s s.heap) (hA : ∀ q, s.heap.size ≤ q → A q) (hI : xI xtb a) (hR : 100 ≤ R.frames ∧ 4000 ≤ R.locals ∧ 600000 ≤ R.cells ∧ 7302250 ≤ R.slots) (hL : L ≤ 1000) (hF : nF s) (hkn : k ≤ R.cells ∧ n ≤ R.slots) (hm0 : m0 < 1073741824) (hjj : -1 ≤ jj ∧ jj ≤ 30) (hv2 : isL cy zE ad y2 (bsL L xs c9) v2) (kk : ∀ (S1 : xSt) (vi : va_W) (t : Int) (hB : BX η gn S1) (hi : iX η S1) (hit : isI y2 it2 (bsL L xs c9).length (bsL L xs c9).length vi) (ht9 : t = 0 ∨ t = 1) (hq9 : t = 1 ↔ tkP L xs m0 jj c9 (bsL L xs c9).length) (H : Heap) (locs : List Loc) (ls : Array Slot), lv_has ls 21 [(0, .ref b), (1, .ref (a 0)), (2, .ref z0), (3, .ref y), (7, .int (ki x)), (8, .int (ki nn)), (9, .long (kj (m0 : Int))), (11, .int (ki jj)), (12, .int (ki t12)), (13, .ref it), (14, .int (ki (c9 : Int))), (15, .int (ki t))] → va_P D vwCl (List.flatten [[(z0, .inr (12, [.ref b, .ref q1, .ref q2, .ref q3, .ref q4, .ref q5, .ref q6, .ref q7])), (q1, .inl (cy 0, 6, .inl fh)), (q2, .inl (cy 0, 30, .inl fd)), (q4, .inl (cy 0, 30, .inl fs))], (w ++ wi), (v2 ++ vi), xW cy xtb a S1]) H → va_D A (List.flatten [[(z0, .inr (12, [.ref b, .ref q1, .ref q2, .ref q3, .ref q4, .ref q5, .ref q6, .ref q7])), (q1, .inl (cy 0, 6, .inl fh)), (q2, .inl (cy 0, 30, .inl fd)), (q4, .inl (cy 0, 30, .inl fs))], (w ++ wi), (v2 ++ vi), xW cy xtb a S1]) → va_S A s.heap H locs → W p l e R s m args below meth c H locs k n Q (F0 m 688 ls [])) : ∀ (d9 i : Nat), i + d9 = (bsL L xs c9).length → ∀ (S1 : xSt) (vi : va_W) (t : Int) (hB : BX η gn S1) (hi : iX η S1) (hit : isI y2 it2 i (bsL L xs c9).length vi) (ht9 : t = 0 ∨ t = 1) (hq9 : t = 1 ↔ tkP L xs m0 jj c9 i) (H : Heap) (locs : List Loc) (ls : Array Slot), lv_has ls 21 [(0, .ref b), (1, .ref (a 0)), (2, .ref z0), (3, .ref y), (7, .int (ki x)), (8, .int (ki nn)), (9, .long (kj (m0 : Int))), (11, .int (ki jj)), (12, .int (ki t12)), (13, .ref it), (14, .int (ki (c9 : Int))), (15, .int (ki t)), (16, .ref it2)] → va_P D vwCl (List.flatten [[(z0, .inr (12, [.ref b, .ref q1, .ref q2, .ref q3, .ref q4, .ref q5, .ref q6, .ref q7])), (q1, .inl (cy 0, 6, .inl fh)), (q2, .inl (cy 0, 30, .inl fd)), (q4, .inl (cy 0, 30, .inl fs))], (w ++ wi), (v2 ++ vi), xW cy xtb a S1]) H → va_D A (List.flatten [[(z0, .inr (12, [.ref b, .ref q1, .ref q2, .ref q3, .ref q4, .ref q5, .ref q6, .ref q7])), (q1, .inl (cy 0, 6, .inl fh)), (q2, .inl (cy 0, 30, .inl fd)), (q4, .inl (cy 0, 30, .inl fs))], (w ++ wi), (v2 ++ vi), xW cy xtb a S1]) → va_S A s.heap H locs → W p l e R s m args below meth c H locs k n Q (F0 m 631 ls []) := by
  intro d9
  induction d9 with
  | zero =>
    intro i hix S1 vi t hB hi hit ht9 hq9 H locs ls hl hP hD hS
    have hix : (bsL L xs c9).length = i := by omega
    subst hix
    have hl30 := hv2.2.1
    refine lv_aload hx hb dL_law_631 (lv_at hl 12 rfl) ?_
    have hPc := blk_P (bs := ([[(z0, .inr (12, [.ref b, .ref q1, .ref q2, .ref q3, .ref q4, .ref q5, .ref q6, .ref q7])), (q1, .inl (cy 0, 6, .inl fh)), (q2, .inl (cy 0, 30, .inl fd)), (q4, .inl (cy 0, 30, .inl fs))], (w ++ wi), (v2 ++ vi), xW cy xtb a S1] : List va_W)) (rs := ([[(z0, .inr (12, [.ref b, .ref q1, .ref q2, .ref q3, .ref q4, .ref q5, .ref q6, .ref q7])), (q1, .inl (cy 0, 6, .inl fh)), (q2, .inl (cy 0, 30, .inl fd)), (q4, .inl (cy 0, 30, .inl fs))], (w ++ wi), xW cy xtb a S1] : List va_W)) (x := (v2 ++ vi)) 2 rfl rfl hP
    have hDc := blk_D (bs := ([[(z0, .inr (12, [.ref b, .ref q1, .ref q2, .ref q3, .ref q4, .ref q5, .ref q6, .ref q7])), (q1, .inl (cy 0, 6, .inl fh)), (q2, .inl (cy 0, 30, .inl fd)), (q4, .inl (cy 0, 30, .inl fs))], (w ++ wi), (v2 ++ vi), xW cy xtb a S1] : List va_W)) (rs := ([[(z0, .inr (12, [.ref b, .ref q1, .ref q2, .ref q3, .ref q4, .ref q5, .ref q6, .ref q7])), (q1, .inl (cy 0, 6, .inl fh)), (q2, .inl (cy 0, 30, .inl fd)), (q4, .inl (cy 0, 30, .inl fs))], (w ++ wi), xW cy xtb a S1] : List va_W)) (x := (v2 ++ vi)) 2 rfl rfl hD
    refine lk_hasNext hx hb hml hown hts hK hN hZ hS hA hl.1 (Nat.le_of_ble_eq_true (rfl)) (rest := []) (xw_mem 1118 (by decide +kernel) rfl) (xgoodF (xw_mem 1110 (by decide +kernel) rfl) (xw_mem 1114 (by decide +kernel) rfl) (xw_mem 1116 (by decide +kernel) rfl) (xw_mem 56 (by decide +kernel) rfl) (xw_mem 1118 (by decide +kernel) rfl)) hv2 hit (by omega) hPc hDc ⟨by omega, by omega⟩ ⟨by omega, by omega⟩ dL_law_633 (fun H locs hPn hDn hS => ?_)
    have hP := blk_P2 (bs := ([[(z0, .inr (12, [.ref b, .ref q1, .ref q2, .ref q3, .ref q4, .ref q5, .ref q6, .ref q7])), (q1, .inl (cy 0, 6, .inl fh)), (q2, .inl (cy 0, 30, .inl fd)), (q4, .inl (cy 0, 30, .inl fs))], (w ++ wi), (v2 ++ vi), xW cy xtb a S1] : List va_W)) (rs := ([[(z0, .inr (12, [.ref b, .ref q1, .ref q2, .ref q3, .ref q4, .ref q5, .ref q6, .ref q7])), (q1, .inl (cy 0, 6, .inl fh)), (q2, .inl (cy 0, 30, .inl fd)), (q4, .inl (cy 0, 30, .inl fs))], (w ++ wi), xW cy xtb a S1] : List va_W)) (x := (v2 ++ vi)) 2 rfl rfl hPn
    have hD := blk_D2 (bs := ([[(z0, .inr (12, [.ref b, .ref q1, .ref q2, .ref q3, .ref q4, .ref q5, .ref q6, .ref q7])), (q1, .inl (cy 0, 6, .inl fh)), (q2, .inl (cy 0, 30, .inl fd)), (q4, .inl (cy 0, 30, .inl fs))], (w ++ wi), (v2 ++ vi), xW cy xtb a S1] : List va_W)) (rs := ([[(z0, .inr (12, [.ref b, .ref q1, .ref q2, .ref q3, .ref q4, .ref q5, .ref q6, .ref q7])), (q1, .inl (cy 0, 6, .inl fh)), (q2, .inl (cy 0, 30, .inl fd)), (q4, .inl (cy 0, 30, .inl fs))], (w ++ wi), xW cy xtb a S1] : List va_W)) (x := (v2 ++ vi)) 2 rfl rfl hDn
    rw [show bi _ = 0 from if_neg (by omega)]
    refine kv_if_eq_t (tgt := 688) hx hb (by omega) (by omega) (by omega) dL_law_638 (by decide) ?_
    exact kk S1 vi t hB hi hit ht9 hq9 H _ ls (lv_sub hl [0, 1, 2, 3, 4, 5, 6, 7, 8, 9, 10, 11] rfl) hP hD hS
  | succ d9 ih =>
    intro i hix S1 vi t hB hi hit ht9 hq9 H locs ls hl hP hD hS
    obtain ⟨q9, hq0⟩ : ∃ q9, (bsL L xs c9)[i]? = some q9 := ⟨_, List.getElem?_eq_getElem (by omega)⟩
    have hq30 : q9 < 30 := hv2.1 q9 (List.mem_of_getElem? hq0)
    have hl30 := hv2.2.1
    refine lv_aload hx hb dL_law_631 (lv_at hl 12 rfl) ?_
    have hPc := blk_P (bs := ([[(z0, .inr (12, [.ref b, .ref q1, .ref q2, .ref q3, .ref q4, .ref q5, .ref q6, .ref q7])), (q1, .inl (cy 0, 6, .inl fh)), (q2, .inl (cy 0, 30, .inl fd)), (q4, .inl (cy 0, 30, .inl fs))], (w ++ wi), (v2 ++ vi), xW cy xtb a S1] : List va_W)) (rs := ([[(z0, .inr (12, [.ref b, .ref q1, .ref q2, .ref q3, .ref q4, .ref q5, .ref q6, .ref q7])), (q1, .inl (cy 0, 6, .inl fh)), (q2, .inl (cy 0, 30, .inl fd)), (q4, .inl (cy 0, 30, .inl fs))], (w ++ wi), xW cy xtb a S1] : List va_W)) (x := (v2 ++ vi)) 2 rfl rfl hP
    have hDc := blk_D (bs := ([[(z0, .inr (12, [.ref b, .ref q1, .ref q2, .ref q3, .ref q4, .ref q5, .ref q6, .ref q7])), (q1, .inl (cy 0, 6, .inl fh)), (q2, .inl (cy 0, 30, .inl fd)), (q4, .inl (cy 0, 30, .inl fs))], (w ++ wi), (v2 ++ vi), xW cy xtb a S1] : List va_W)) (rs := ([[(z0, .inr (12, [.ref b, .ref q1, .ref q2, .ref q3, .ref q4, .ref q5, .ref q6, .ref q7])), (q1, .inl (cy 0, 6, .inl fh)), (q2, .inl (cy 0, 30, .inl fd)), (q4, .inl (cy 0, 30, .inl fs))], (w ++ wi), xW cy xtb a S1] : List va_W)) (x := (v2 ++ vi)) 2 rfl rfl hD
    refine lk_hasNext hx hb hml hown hts hK hN hZ hS hA hl.1 (Nat.le_of_ble_eq_true (rfl)) (rest := []) (xw_mem 1118 (by decide +kernel) rfl) (xgoodF (xw_mem 1110 (by decide +kernel) rfl) (xw_mem 1114 (by decide +kernel) rfl) (xw_mem 1116 (by decide +kernel) rfl) (xw_mem 56 (by decide +kernel) rfl) (xw_mem 1118 (by decide +kernel) rfl)) hv2 hit (by omega) hPc hDc ⟨by omega, by omega⟩ ⟨by omega, by omega⟩ dL_law_633 (fun H locs hPn hDn hS => ?_)
    have hP := blk_P2 (bs := ([[(z0, .inr (12, [.ref b, .ref q1, .ref q2, .ref q3, .ref q4, .ref q5, .ref q6, .ref q7])), (q1, .inl (cy 0, 6, .inl fh)), (q2, .inl (cy 0, 30, .inl fd)), (q4, .inl (cy 0, 30, .inl fs))], (w ++ wi), (v2 ++ vi), xW cy xtb a S1] : List va_W)) (rs := ([[(z0, .inr (12, [.ref b, .ref q1, .ref q2, .ref q3, .ref q4, .ref q5, .ref q6, .ref q7])), (q1, .inl (cy 0, 6, .inl fh)), (q2, .inl (cy 0, 30, .inl fd)), (q4, .inl (cy 0, 30, .inl fs))], (w ++ wi), xW cy xtb a S1] : List va_W)) (x := (v2 ++ vi)) 2 rfl rfl hPn
    have hD := blk_D2 (bs := ([[(z0, .inr (12, [.ref b, .ref q1, .ref q2, .ref q3, .ref q4, .ref q5, .ref q6, .ref q7])), (q1, .inl (cy 0, 6, .inl fh)), (q2, .inl (cy 0, 30, .inl fd)), (q4, .inl (cy 0, 30, .inl fs))], (w ++ wi), (v2 ++ vi), xW cy xtb a S1] : List va_W)) (rs := ([[(z0, .inr (12, [.ref b, .ref q1, .ref q2, .ref q3, .ref q4, .ref q5, .ref q6, .ref q7])), (q1, .inl (cy 0, 6, .inl fh)), (q2, .inl (cy 0, 30, .inl fd)), (q4, .inl (cy 0, 30, .inl fs))], (w ++ wi), xW cy xtb a S1] : List va_W)) (x := (v2 ++ vi)) 2 rfl rfl hDn
    rw [show bi _ = 1 from if_pos (by omega)]
    refine kv_if_eq_f (tgt := 688) hx hb (by omega) (by omega) (by omega) dL_law_638 (by decide) ?_
    refine lv_aload hx hb dL_law_641 (lv_at hl 12 rfl) ?_
    have hPc := blk_P (bs := ([[(z0, .inr (12, [.ref b, .ref q1, .ref q2, .ref q3, .ref q4, .ref q5, .ref q6, .ref q7])), (q1, .inl (cy 0, 6, .inl fh)), (q2, .inl (cy 0, 30, .inl fd)), (q4, .inl (cy 0, 30, .inl fs))], (w ++ wi), (v2 ++ vi), xW cy xtb a S1] : List va_W)) (rs := ([[(z0, .inr (12, [.ref b, .ref q1, .ref q2, .ref q3, .ref q4, .ref q5, .ref q6, .ref q7])), (q1, .inl (cy 0, 6, .inl fh)), (q2, .inl (cy 0, 30, .inl fd)), (q4, .inl (cy 0, 30, .inl fs))], (w ++ wi), xW cy xtb a S1] : List va_W)) (x := (v2 ++ vi)) 2 rfl rfl hP
    have hDc := blk_D (bs := ([[(z0, .inr (12, [.ref b, .ref q1, .ref q2, .ref q3, .ref q4, .ref q5, .ref q6, .ref q7])), (q1, .inl (cy 0, 6, .inl fh)), (q2, .inl (cy 0, 30, .inl fd)), (q4, .inl (cy 0, 30, .inl fs))], (w ++ wi), (v2 ++ vi), xW cy xtb a S1] : List va_W)) (rs := ([[(z0, .inr (12, [.ref b, .ref q1, .ref q2, .ref q3, .ref q4, .ref q5, .ref q6, .ref q7])), (q1, .inl (cy 0, 6, .inl fh)), (q2, .inl (cy 0, 30, .inl fd)), (q4, .inl (cy 0, 30, .inl fs))], (w ++ wi), xW cy xtb a S1] : List va_W)) (x := (v2 ++ vi)) 2 rfl rfl hD
    refine lk_next hx hb hml hown hts hK hN hZ hS hA hl.1 (Nat.le_of_ble_eq_true (rfl)) (rest := []) (xw_mem 1127 (by decide +kernel) rfl) (xgoodF (xw_mem 1120 (by decide +kernel) rfl) (xw_mem 1123 (by decide +kernel) rfl) (xw_mem 1125 (by decide +kernel) rfl) (xw_mem 56 (by decide +kernel) rfl) (xw_mem 1127 (by decide +kernel) rfl)) hv2 hit hq0 hPc hDc ⟨by omega, by omega⟩ ⟨by omega, by omega⟩ dL_law_643 (fun vi3 H locs hit hPn hDn hS => ?_)
    have hP := blk_P2 (bs := ([[(z0, .inr (12, [.ref b, .ref q1, .ref q2, .ref q3, .ref q4, .ref q5, .ref q6, .ref q7])), (q1, .inl (cy 0, 6, .inl fh)), (q2, .inl (cy 0, 30, .inl fd)), (q4, .inl (cy 0, 30, .inl fs))], (w ++ wi), (v2 ++ vi3), xW cy xtb a S1] : List va_W)) (rs := ([[(z0, .inr (12, [.ref b, .ref q1, .ref q2, .ref q3, .ref q4, .ref q5, .ref q6, .ref q7])), (q1, .inl (cy 0, 6, .inl fh)), (q2, .inl (cy 0, 30, .inl fd)), (q4, .inl (cy 0, 30, .inl fs))], (w ++ wi), xW cy xtb a S1] : List va_W)) (x := (v2 ++ vi3)) 2 rfl rfl hPn
    have hD := blk_D2 (bs := ([[(z0, .inr (12, [.ref b, .ref q1, .ref q2, .ref q3, .ref q4, .ref q5, .ref q6, .ref q7])), (q1, .inl (cy 0, 6, .inl fh)), (q2, .inl (cy 0, 30, .inl fd)), (q4, .inl (cy 0, 30, .inl fs))], (w ++ wi), (v2 ++ vi3), xW cy xtb a S1] : List va_W)) (rs := ([[(z0, .inr (12, [.ref b, .ref q1, .ref q2, .ref q3, .ref q4, .ref q5, .ref q6, .ref q7])), (q1, .inl (cy 0, 6, .inl fh)), (q2, .inl (cy 0, 30, .inl fd)), (q4, .inl (cy 0, 30, .inl fs))], (w ++ wi), xW cy xtb a S1] : List va_W)) (x := (v2 ++ vi3)) 2 rfl rfl hDn
    refine lk_unbox hx hb hml hown hts hK hN hZ hS hA hl.1 (Nat.le_of_ble_eq_true (rfl)) (rest := []) (⟨xw_mem 1056 (by decide +kernel) rfl, xw_mem 48 (by decide +kernel) rfl, xw_mem 1053 (by decide +kernel) rfl, by decide +kernel⟩ : xML RL 102 yJ6_intValue_8abf5 cJ6_intValue_8abf5 1 (some .int) 0) (hts _ (xw_mem 1134 (by decide +kernel) rfl)) (v := q9) (by omega) hD hP ⟨by omega, by omega⟩ ⟨by omega, by omega⟩ dL_law_648 dL_law_651 (fun H locs hP hD hS => ?_)
    refine lv_istore (lv' := [(17, .int (ki (q9 : Int))), (0, .ref b), (1, .ref (a 0)), (2, .ref z0), (3, .ref y), (7, .int (ki x)), (8, .int (ki nn)), (9, .long (kj (m0 : Int))), (11, .int (ki jj)), (12, .int (ki t12)), (13, .ref it), (14, .int (ki (c9 : Int))), (15, .int (ki t)), (16, .ref it2)]) hx hb dL_law_654 hl (by decide) rfl (fun ls hl => ?_)
    by_cases hqj : (q9 : Int) = jj
    · refine lv_iload hx hb dL_law_656 (lv_at hl 12 rfl) ?_
      refine lv_iload hx hb dL_law_658 (lv_at hl 0 rfl) ?_
      refine lv_iload hx hb dL_law_660 (lv_at hl 8 rfl) ?_
      refine kv_icmp_eq_t (tgt := 681) hx hb (by omega) (by omega) (by omega) (by omega) (by omega) dL_law_662 (by decide) ?_
      refine lv_iconst (v := ki 0) hx hb dL_law_681 rfl ?_
      refine lv_ior hx hb dL_law_682 ?_
      rw [show ki t ||| ki 0 = ki t from by rcases ht9 with rfl | rfl <;> rfl]
      refine lv_istore (lv' := [(15, .int (ki t)), (17, .int (ki (q9 : Int))), (0, .ref b), (1, .ref (a 0)), (2, .ref z0), (3, .ref y), (7, .int (ki x)), (8, .int (ki nn)), (9, .long (kj (m0 : Int))), (11, .int (ki jj)), (12, .int (ki t12)), (13, .ref it), (14, .int (ki (c9 : Int))), (16, .ref it2)]) hx hb dL_law_683 hl (by decide) rfl (fun ls hl => ?_)
      refine lv_goto (tgt := 631) hx hb dL_law_685 (by decide) ?_
      exact ih (i + 1) (by omega) _ _ t hB hi hit ht9 (by rw [tkP_s hq0]; exact ⟨fun h => Or.inl (hq9.mp h), fun h => h.elim hq9.mpr (fun h => absurd hqj h.1)⟩) _ _ ls (lv_sub hl [2, 3, 4, 5, 6, 7, 8, 9, 10, 11, 12, 0, 13] rfl) hP hD hS
    · by_cases hbit : m0.testBit q9 = true
      · refine lv_iload hx hb dL_law_656 (lv_at hl 12 rfl) ?_
        refine lv_iload hx hb dL_law_658 (lv_at hl 0 rfl) ?_
        refine lv_iload hx hb dL_law_660 (lv_at hl 8 rfl) ?_
        refine kv_icmp_eq_f (tgt := 681) hx hb (by omega) (by omega) (by omega) (by omega) (by omega) dL_law_662 (by decide) ?_
        refine lv_lload hx hb dL_law_665 (lv_at hl 7 rfl) ?_
        refine lv_iload hx hb dL_law_667 (lv_at hl 0 rfl) ?_
        refine lv_lshr (v := kj ((m0 : Int) / ((2 ^ (q9 : Int).toNat : Nat) : Int))) hx hb dL_law_669 (kv_lshr (by omega) (by omega) (by omega) (by omega)) ?_
        refine lv_lconst (v := kj 1) hx hb dL_law_670 rfl ?_
        have hdv := dv_b (x := (m0 : Int)) (by omega) (q9)
        refine lv_land hx hb dL_law_671 ?_
        rw [show (kj ((m0 : Int) / ((2 ^ (q9 : Int).toNat : Nat) : Int)) &&& kj 1) = kj (((m0 : Int) / ((2 ^ (q9 : Int).toNat : Nat) : Int)) % 2) from kv_land1 (show 0 ≤ (m0 : Int) / ((2 ^ q9 : Nat) : Int) by omega) (show (m0 : Int) / ((2 ^ q9 : Nat) : Int) < 1000000000000 by omega), show ((m0 : Int) / ((2 ^ (q9 : Int).toNat : Nat) : Int)) % 2 = 1 from (bit_I (m0 := m0) (q := q9)).trans (if_pos hbit)]
        refine lv_lconst (v := kj 1) hx hb dL_law_672 rfl ?_
        refine W.lcmp hx hb dL_law_673 ?_
        rw [kJ_cmp (a := 1) (b := 1) (by omega) (by omega) (by omega) (by omega), show (if (1 : Int) < 1 then (1 : Int) else if (1 : Int) = 1 then 0 else -1) = 0 from by decide]
        refine kv_if_ne_f (tgt := 681) hx hb (by omega) (by omega) (by omega) dL_law_674 (by decide) ?_
        refine lv_iconst (v := ki 1) hx hb dL_law_677 rfl ?_
        refine lv_goto (tgt := 682) hx hb dL_law_678 (by decide) ?_
        refine lv_ior hx hb dL_law_682 ?_
        rw [show ki t ||| ki 1 = ki 1 from by rcases ht9 with rfl | rfl <;> rfl]
        refine lv_istore (lv' := [(15, .int (ki 1)), (17, .int (ki (q9 : Int))), (0, .ref b), (1, .ref (a 0)), (2, .ref z0), (3, .ref y), (7, .int (ki x)), (8, .int (ki nn)), (9, .long (kj (m0 : Int))), (11, .int (ki jj)), (12, .int (ki t12)), (13, .ref it), (14, .int (ki (c9 : Int))), (16, .ref it2)]) hx hb dL_law_683 hl (by decide) rfl (fun ls hl => ?_)
        refine lv_goto (tgt := 631) hx hb dL_law_685 (by decide) ?_
        exact ih (i + 1) (by omega) _ _ 1 hB hi hit (Or.inr rfl) (by rw [tkP_s hq0]; exact ⟨fun _ => Or.inr ⟨hqj, hbit⟩, fun _ => rfl⟩) _ _ ls (lv_sub hl [2, 3, 4, 5, 6, 7, 8, 9, 10, 11, 12, 0, 13] rfl) hP hD hS
      · refine lv_iload hx hb dL_law_656 (lv_at hl 12 rfl) ?_
        refine lv_iload hx hb dL_law_658 (lv_at hl 0 rfl) ?_
        refine lv_iload hx hb dL_law_660 (lv_at hl 8 rfl) ?_
        refine kv_icmp_eq_f (tgt := 681) hx hb (by omega) (by omega) (by omega) (by omega) (by omega) dL_law_662 (by decide) ?_
        refine lv_lload hx hb dL_law_665 (lv_at hl 7 rfl) ?_
        refine lv_iload hx hb dL_law_667 (lv_at hl 0 rfl) ?_
        refine lv_lshr (v := kj ((m0 : Int) / ((2 ^ (q9 : Int).toNat : Nat) : Int))) hx hb dL_law_669 (kv_lshr (by omega) (by omega) (by omega) (by omega)) ?_
        refine lv_lconst (v := kj 1) hx hb dL_law_670 rfl ?_
        have hdv := dv_b (x := (m0 : Int)) (by omega) (q9)
        refine lv_land hx hb dL_law_671 ?_
        rw [show (kj ((m0 : Int) / ((2 ^ (q9 : Int).toNat : Nat) : Int)) &&& kj 1) = kj (((m0 : Int) / ((2 ^ (q9 : Int).toNat : Nat) : Int)) % 2) from kv_land1 (show 0 ≤ (m0 : Int) / ((2 ^ q9 : Nat) : Int) by omega) (show (m0 : Int) / ((2 ^ q9 : Nat) : Int) < 1000000000000 by omega), show ((m0 : Int) / ((2 ^ (q9 : Int).toNat : Nat) : Int)) % 2 = 0 from (bit_I (m0 := m0) (q := q9)).trans (if_neg hbit)]
        refine lv_lconst (v := kj 1) hx hb dL_law_672 rfl ?_
        refine W.lcmp hx hb dL_law_673 ?_
        rw [kJ_cmp (a := 0) (b := 1) (by omega) (by omega) (by omega) (by omega), show (if (1 : Int) < 0 then (1 : Int) else if (0 : Int) = 1 then 0 else -1) = (-1) from by decide]
        refine kv_if_ne_t (tgt := 681) hx hb (by omega) (by omega) (by omega) dL_law_674 (by decide) ?_
        refine lv_iconst (v := ki 0) hx hb dL_law_681 rfl ?_
        refine lv_ior hx hb dL_law_682 ?_
        rw [show ki t ||| ki 0 = ki t from by rcases ht9 with rfl | rfl <;> rfl]
        refine lv_istore (lv' := [(15, .int (ki t)), (17, .int (ki (q9 : Int))), (0, .ref b), (1, .ref (a 0)), (2, .ref z0), (3, .ref y), (7, .int (ki x)), (8, .int (ki nn)), (9, .long (kj (m0 : Int))), (11, .int (ki jj)), (12, .int (ki t12)), (13, .ref it), (14, .int (ki (c9 : Int))), (16, .ref it2)]) hx hb dL_law_683 hl (by decide) rfl (fun ls hl => ?_)
        refine lv_goto (tgt := 631) hx hb dL_law_685 (by decide) ?_
        exact ih (i + 1) (by omega) _ _ t hB hi hit ht9 (by rw [tkP_s hq0]; exact ⟨fun h => Or.inl (hq9.mp h), fun h => h.elim hq9.mpr (fun h => absurd h.2 hbit)⟩) _ _ ls (lv_sub hl [2, 3, 4, 5, 6, 7, 8, 9, 10, 11, 12, 0, 13] rfl) hP hD hS
variable {k0 n0 : Nat}
set_option maxHeartbeats 4000000 in
set_option maxRecDepth 20000 in
theorem RA_2 (hx : p.tables.exec = Jvm.exec) (hb : c.code = cL_law) (hml : c.maxLocals = 21) (hown : s.vm.findClass RL = some m.cls) (hts : ∀ w ∈ xTB, w.before args s = true) (hK : va_K D vwCl (xtyL cy) s) (hN : jN mi s) (hZ : jZ zE zc ad A s s.heap) (hX : va_X b L xs s s.heap) (hbl : b < s.heap.size) (hbA : ¬ A b) (hNs : nS s) (hEx : xEx z A s s.heap) (hA : ∀ q, s.heap.size ≤ q → A q) (hI : xI xtb a) (hR : 100 ≤ R.frames ∧ 4000 ≤ R.locals ∧ 600000 ≤ R.cells ∧ 7302250 ≤ R.slots) (hL : L ≤ 1000) (hF : nF s) (hk0 : k0 + 180 ≤ R.cells ∧ n0 + 12210 ≤ R.slots) (hm0 : m0 < 1073741824) (hjj : -1 ≤ jj ∧ jj ≤ 30) (hxb : 0 ≤ x ∧ x ≤ 99) (hE : bE L xs η) (hh : ∀ j : Nat, j < 6 → fh j = ki (hgS L xs j)) (hw9 : isL cy zE ad y (csI L xs 30) w) (kk : ∀ (S1 : xSt) (wi : va_W) (t : Int) (k n : Nat) (hk : k ≤ k0 + 6 * (csI L xs 30).length) (hn : n ≤ n0 + 407 * (csI L xs 30).length) (hB : BX η gn S1) (hi : iX η S1) (hio : isI y it (csI L xs 30).length (csI L xs 30).length wi) (ht9 : t = 0 ∨ t = 1) (hq9 : t = 1 ↔ chkP L xs η x m0 jj (csI L xs 30).length) (H : Heap) (locs : List Loc) (ls : Array Slot), lv_has ls 21 [(0, .ref b), (1, .ref (a 0)), (2, .ref z0), (3, .ref y), (7, .int (ki x)), (8, .int (ki nn)), (9, .long (kj (m0 : Int))), (11, .int (ki jj)), (12, .int (ki t))] → va_P D vwCl (List.flatten [[(z0, .inr (12, [.ref b, .ref q1, .ref q2, .ref q3, .ref q4, .ref q5, .ref q6, .ref q7])), (q1, .inl (cy 0, 6, .inl fh)), (q2, .inl (cy 0, 30, .inl fd)), (q4, .inl (cy 0, 30, .inl fs))], (w ++ wi), xW cy xtb a S1]) H → va_D A (List.flatten [[(z0, .inr (12, [.ref b, .ref q1, .ref q2, .ref q3, .ref q4, .ref q5, .ref q6, .ref q7])), (q1, .inl (cy 0, 6, .inl fh)), (q2, .inl (cy 0, 30, .inl fd)), (q4, .inl (cy 0, 30, .inl fs))], (w ++ wi), xW cy xtb a S1]) → va_S A s.heap H locs → W p l e R s m args below meth c H locs k n Q (F0 m 698 ls [])) : ∀ (d9 i : Nat), i + d9 = (csI L xs 30).length → ∀ (S1 : xSt) (wi : va_W) (t : Int) (k n : Nat) (hk : k ≤ k0 + 6 * i) (hn : n ≤ n0 + 407 * i) (hB : BX η gn S1) (hi : iX η S1) (hio : isI y it i (csI L xs 30).length wi) (ht9 : t = 0 ∨ t = 1) (hq9 : t = 1 ↔ chkP L xs η x m0 jj i) (H : Heap) (locs : List Loc) (ls : Array Slot), lv_has ls 21 [(0, .ref b), (1, .ref (a 0)), (2, .ref z0), (3, .ref y), (7, .int (ki x)), (8, .int (ki nn)), (9, .long (kj (m0 : Int))), (11, .int (ki jj)), (12, .int (ki t)), (13, .ref it)] → va_P D vwCl (List.flatten [[(z0, .inr (12, [.ref b, .ref q1, .ref q2, .ref q3, .ref q4, .ref q5, .ref q6, .ref q7])), (q1, .inl (cy 0, 6, .inl fh)), (q2, .inl (cy 0, 30, .inl fd)), (q4, .inl (cy 0, 30, .inl fs))], (w ++ wi), xW cy xtb a S1]) H → va_D A (List.flatten [[(z0, .inr (12, [.ref b, .ref q1, .ref q2, .ref q3, .ref q4, .ref q5, .ref q6, .ref q7])), (q1, .inl (cy 0, 6, .inl fh)), (q2, .inl (cy 0, 30, .inl fd)), (q4, .inl (cy 0, 30, .inl fs))], (w ++ wi), xW cy xtb a S1]) → va_S A s.heap H locs → W p l e R s m args below meth c H locs k n Q (F0 m 554 ls []) := by
  intro d9
  induction d9 with
  | zero =>
    intro i hix S1 wi t k n hk hn hB hi hio ht9 hq9 H locs ls hl hP hD hS
    have hix : (csI L xs 30).length = i := by omega
    subst hix
    have hl30 := hw9.2.1
    refine lv_aload hx hb dL_law_554 (lv_at hl 9 rfl) ?_
    have hPc := blk_P (bs := ([[(z0, .inr (12, [.ref b, .ref q1, .ref q2, .ref q3, .ref q4, .ref q5, .ref q6, .ref q7])), (q1, .inl (cy 0, 6, .inl fh)), (q2, .inl (cy 0, 30, .inl fd)), (q4, .inl (cy 0, 30, .inl fs))], (w ++ wi), xW cy xtb a S1] : List va_W)) (rs := ([[(z0, .inr (12, [.ref b, .ref q1, .ref q2, .ref q3, .ref q4, .ref q5, .ref q6, .ref q7])), (q1, .inl (cy 0, 6, .inl fh)), (q2, .inl (cy 0, 30, .inl fd)), (q4, .inl (cy 0, 30, .inl fs))], xW cy xtb a S1] : List va_W)) (x := (w ++ wi)) 1 rfl rfl hP
    have hDc := blk_D (bs := ([[(z0, .inr (12, [.ref b, .ref q1, .ref q2, .ref q3, .ref q4, .ref q5, .ref q6, .ref q7])), (q1, .inl (cy 0, 6, .inl fh)), (q2, .inl (cy 0, 30, .inl fd)), (q4, .inl (cy 0, 30, .inl fs))], (w ++ wi), xW cy xtb a S1] : List va_W)) (rs := ([[(z0, .inr (12, [.ref b, .ref q1, .ref q2, .ref q3, .ref q4, .ref q5, .ref q6, .ref q7])), (q1, .inl (cy 0, 6, .inl fh)), (q2, .inl (cy 0, 30, .inl fd)), (q4, .inl (cy 0, 30, .inl fs))], xW cy xtb a S1] : List va_W)) (x := (w ++ wi)) 1 rfl rfl hD
    refine lk_hasNext hx hb hml hown hts hK hN hZ hS hA hl.1 (Nat.le_of_ble_eq_true (rfl)) (rest := []) (xw_mem 1118 (by decide +kernel) rfl) (xgoodF (xw_mem 1110 (by decide +kernel) rfl) (xw_mem 1114 (by decide +kernel) rfl) (xw_mem 1116 (by decide +kernel) rfl) (xw_mem 56 (by decide +kernel) rfl) (xw_mem 1118 (by decide +kernel) rfl)) hw9 hio (by omega) hPc hDc ⟨by omega, by omega⟩ ⟨by omega, by omega⟩ dL_law_556 (fun H locs hPn hDn hS => ?_)
    have hP := blk_P2 (bs := ([[(z0, .inr (12, [.ref b, .ref q1, .ref q2, .ref q3, .ref q4, .ref q5, .ref q6, .ref q7])), (q1, .inl (cy 0, 6, .inl fh)), (q2, .inl (cy 0, 30, .inl fd)), (q4, .inl (cy 0, 30, .inl fs))], (w ++ wi), xW cy xtb a S1] : List va_W)) (rs := ([[(z0, .inr (12, [.ref b, .ref q1, .ref q2, .ref q3, .ref q4, .ref q5, .ref q6, .ref q7])), (q1, .inl (cy 0, 6, .inl fh)), (q2, .inl (cy 0, 30, .inl fd)), (q4, .inl (cy 0, 30, .inl fs))], xW cy xtb a S1] : List va_W)) (x := (w ++ wi)) 1 rfl rfl hPn
    have hD := blk_D2 (bs := ([[(z0, .inr (12, [.ref b, .ref q1, .ref q2, .ref q3, .ref q4, .ref q5, .ref q6, .ref q7])), (q1, .inl (cy 0, 6, .inl fh)), (q2, .inl (cy 0, 30, .inl fd)), (q4, .inl (cy 0, 30, .inl fs))], (w ++ wi), xW cy xtb a S1] : List va_W)) (rs := ([[(z0, .inr (12, [.ref b, .ref q1, .ref q2, .ref q3, .ref q4, .ref q5, .ref q6, .ref q7])), (q1, .inl (cy 0, 6, .inl fh)), (q2, .inl (cy 0, 30, .inl fd)), (q4, .inl (cy 0, 30, .inl fs))], xW cy xtb a S1] : List va_W)) (x := (w ++ wi)) 1 rfl rfl hDn
    rw [show bi _ = 0 from if_neg (by omega)]
    refine kv_if_eq_t (tgt := 698) hx hb (by omega) (by omega) (by omega) dL_law_561 (by decide) ?_
    exact kk S1 wi t k n hk hn hB hi hio ht9 hq9 H _ ls (lv_sub hl [0, 1, 2, 3, 4, 5, 6, 7, 8] rfl) hP hD hS
  | succ d9 ih =>
    intro i hix S1 wi t k n hk hn hB hi hio ht9 hq9 H locs ls hl hP hD hS
    obtain ⟨c9, hc0⟩ : ∃ c9, (csI L xs 30)[i]? = some c9 := ⟨_, List.getElem?_eq_getElem (by omega)⟩
    have hcm := List.mem_of_getElem? hc0
    have hc30 : c9 < 30 := hw9.1 c9 hcm
    have hch := cs_has hE hcm
    have hl30 := hw9.2.1
    have hh4 := hB.1.2.2.2.1 (c9 : Int)
    refine lv_aload hx hb dL_law_554 (lv_at hl 9 rfl) ?_
    have hPc := blk_P (bs := ([[(z0, .inr (12, [.ref b, .ref q1, .ref q2, .ref q3, .ref q4, .ref q5, .ref q6, .ref q7])), (q1, .inl (cy 0, 6, .inl fh)), (q2, .inl (cy 0, 30, .inl fd)), (q4, .inl (cy 0, 30, .inl fs))], (w ++ wi), xW cy xtb a S1] : List va_W)) (rs := ([[(z0, .inr (12, [.ref b, .ref q1, .ref q2, .ref q3, .ref q4, .ref q5, .ref q6, .ref q7])), (q1, .inl (cy 0, 6, .inl fh)), (q2, .inl (cy 0, 30, .inl fd)), (q4, .inl (cy 0, 30, .inl fs))], xW cy xtb a S1] : List va_W)) (x := (w ++ wi)) 1 rfl rfl hP
    have hDc := blk_D (bs := ([[(z0, .inr (12, [.ref b, .ref q1, .ref q2, .ref q3, .ref q4, .ref q5, .ref q6, .ref q7])), (q1, .inl (cy 0, 6, .inl fh)), (q2, .inl (cy 0, 30, .inl fd)), (q4, .inl (cy 0, 30, .inl fs))], (w ++ wi), xW cy xtb a S1] : List va_W)) (rs := ([[(z0, .inr (12, [.ref b, .ref q1, .ref q2, .ref q3, .ref q4, .ref q5, .ref q6, .ref q7])), (q1, .inl (cy 0, 6, .inl fh)), (q2, .inl (cy 0, 30, .inl fd)), (q4, .inl (cy 0, 30, .inl fs))], xW cy xtb a S1] : List va_W)) (x := (w ++ wi)) 1 rfl rfl hD
    refine lk_hasNext hx hb hml hown hts hK hN hZ hS hA hl.1 (Nat.le_of_ble_eq_true (rfl)) (rest := []) (xw_mem 1118 (by decide +kernel) rfl) (xgoodF (xw_mem 1110 (by decide +kernel) rfl) (xw_mem 1114 (by decide +kernel) rfl) (xw_mem 1116 (by decide +kernel) rfl) (xw_mem 56 (by decide +kernel) rfl) (xw_mem 1118 (by decide +kernel) rfl)) hw9 hio (by omega) hPc hDc ⟨by omega, by omega⟩ ⟨by omega, by omega⟩ dL_law_556 (fun H locs hPn hDn hS => ?_)
    have hP := blk_P2 (bs := ([[(z0, .inr (12, [.ref b, .ref q1, .ref q2, .ref q3, .ref q4, .ref q5, .ref q6, .ref q7])), (q1, .inl (cy 0, 6, .inl fh)), (q2, .inl (cy 0, 30, .inl fd)), (q4, .inl (cy 0, 30, .inl fs))], (w ++ wi), xW cy xtb a S1] : List va_W)) (rs := ([[(z0, .inr (12, [.ref b, .ref q1, .ref q2, .ref q3, .ref q4, .ref q5, .ref q6, .ref q7])), (q1, .inl (cy 0, 6, .inl fh)), (q2, .inl (cy 0, 30, .inl fd)), (q4, .inl (cy 0, 30, .inl fs))], xW cy xtb a S1] : List va_W)) (x := (w ++ wi)) 1 rfl rfl hPn
    have hD := blk_D2 (bs := ([[(z0, .inr (12, [.ref b, .ref q1, .ref q2, .ref q3, .ref q4, .ref q5, .ref q6, .ref q7])), (q1, .inl (cy 0, 6, .inl fh)), (q2, .inl (cy 0, 30, .inl fd)), (q4, .inl (cy 0, 30, .inl fs))], (w ++ wi), xW cy xtb a S1] : List va_W)) (rs := ([[(z0, .inr (12, [.ref b, .ref q1, .ref q2, .ref q3, .ref q4, .ref q5, .ref q6, .ref q7])), (q1, .inl (cy 0, 6, .inl fh)), (q2, .inl (cy 0, 30, .inl fd)), (q4, .inl (cy 0, 30, .inl fs))], xW cy xtb a S1] : List va_W)) (x := (w ++ wi)) 1 rfl rfl hDn
    rw [show bi _ = 1 from if_pos (by omega)]
    refine kv_if_eq_f (tgt := 698) hx hb (by omega) (by omega) (by omega) dL_law_561 (by decide) ?_
    refine lv_aload hx hb dL_law_564 (lv_at hl 9 rfl) ?_
    have hPc := blk_P (bs := ([[(z0, .inr (12, [.ref b, .ref q1, .ref q2, .ref q3, .ref q4, .ref q5, .ref q6, .ref q7])), (q1, .inl (cy 0, 6, .inl fh)), (q2, .inl (cy 0, 30, .inl fd)), (q4, .inl (cy 0, 30, .inl fs))], (w ++ wi), xW cy xtb a S1] : List va_W)) (rs := ([[(z0, .inr (12, [.ref b, .ref q1, .ref q2, .ref q3, .ref q4, .ref q5, .ref q6, .ref q7])), (q1, .inl (cy 0, 6, .inl fh)), (q2, .inl (cy 0, 30, .inl fd)), (q4, .inl (cy 0, 30, .inl fs))], xW cy xtb a S1] : List va_W)) (x := (w ++ wi)) 1 rfl rfl hP
    have hDc := blk_D (bs := ([[(z0, .inr (12, [.ref b, .ref q1, .ref q2, .ref q3, .ref q4, .ref q5, .ref q6, .ref q7])), (q1, .inl (cy 0, 6, .inl fh)), (q2, .inl (cy 0, 30, .inl fd)), (q4, .inl (cy 0, 30, .inl fs))], (w ++ wi), xW cy xtb a S1] : List va_W)) (rs := ([[(z0, .inr (12, [.ref b, .ref q1, .ref q2, .ref q3, .ref q4, .ref q5, .ref q6, .ref q7])), (q1, .inl (cy 0, 6, .inl fh)), (q2, .inl (cy 0, 30, .inl fd)), (q4, .inl (cy 0, 30, .inl fs))], xW cy xtb a S1] : List va_W)) (x := (w ++ wi)) 1 rfl rfl hD
    refine lk_next hx hb hml hown hts hK hN hZ hS hA hl.1 (Nat.le_of_ble_eq_true (rfl)) (rest := []) (xw_mem 1127 (by decide +kernel) rfl) (xgoodF (xw_mem 1120 (by decide +kernel) rfl) (xw_mem 1123 (by decide +kernel) rfl) (xw_mem 1125 (by decide +kernel) rfl) (xw_mem 56 (by decide +kernel) rfl) (xw_mem 1127 (by decide +kernel) rfl)) hw9 hio hc0 hPc hDc ⟨by omega, by omega⟩ ⟨by omega, by omega⟩ dL_law_566 (fun wi3 H locs hio hPn hDn hS => ?_)
    have hP := blk_P2 (bs := ([[(z0, .inr (12, [.ref b, .ref q1, .ref q2, .ref q3, .ref q4, .ref q5, .ref q6, .ref q7])), (q1, .inl (cy 0, 6, .inl fh)), (q2, .inl (cy 0, 30, .inl fd)), (q4, .inl (cy 0, 30, .inl fs))], (w ++ wi3), xW cy xtb a S1] : List va_W)) (rs := ([[(z0, .inr (12, [.ref b, .ref q1, .ref q2, .ref q3, .ref q4, .ref q5, .ref q6, .ref q7])), (q1, .inl (cy 0, 6, .inl fh)), (q2, .inl (cy 0, 30, .inl fd)), (q4, .inl (cy 0, 30, .inl fs))], xW cy xtb a S1] : List va_W)) (x := (w ++ wi3)) 1 rfl rfl hPn
    have hD := blk_D2 (bs := ([[(z0, .inr (12, [.ref b, .ref q1, .ref q2, .ref q3, .ref q4, .ref q5, .ref q6, .ref q7])), (q1, .inl (cy 0, 6, .inl fh)), (q2, .inl (cy 0, 30, .inl fd)), (q4, .inl (cy 0, 30, .inl fs))], (w ++ wi3), xW cy xtb a S1] : List va_W)) (rs := ([[(z0, .inr (12, [.ref b, .ref q1, .ref q2, .ref q3, .ref q4, .ref q5, .ref q6, .ref q7])), (q1, .inl (cy 0, 6, .inl fh)), (q2, .inl (cy 0, 30, .inl fd)), (q4, .inl (cy 0, 30, .inl fs))], xW cy xtb a S1] : List va_W)) (x := (w ++ wi3)) 1 rfl rfl hDn
    refine lk_unbox hx hb hml hown hts hK hN hZ hS hA hl.1 (Nat.le_of_ble_eq_true (rfl)) (rest := []) (⟨xw_mem 1056 (by decide +kernel) rfl, xw_mem 48 (by decide +kernel) rfl, xw_mem 1053 (by decide +kernel) rfl, by decide +kernel⟩ : xML RL 102 yJ6_intValue_8abf5 cJ6_intValue_8abf5 1 (some .int) 0) (hts _ (xw_mem 1134 (by decide +kernel) rfl)) (v := c9) (by omega) hD hP ⟨by omega, by omega⟩ ⟨by omega, by omega⟩ dL_law_571 dL_law_574 (fun H locs hP hD hS => ?_)
    refine lv_istore (lv' := [(14, .int (ki (c9 : Int))), (0, .ref b), (1, .ref (a 0)), (2, .ref z0), (3, .ref y), (7, .int (ki x)), (8, .int (ki nn)), (9, .long (kj (m0 : Int))), (11, .int (ki jj)), (12, .int (ki t)), (13, .ref it)]) hx hb dL_law_577 hl (by decide) rfl (fun ls hl => ?_)
    refine lv_aload_n hx hb dL_law_579 rfl (lv_at hl 2 rfl) ?_
    refine lv_iload hx hb dL_law_580 (lv_at hl 0 rfl) ?_
    refine lv_iconst (v := ki 1) hx hb dL_law_582 rfl ?_
    obtain ⟨⟨S583, v583⟩, hf583, hq583⟩ := t_of1 (S := S1) hB (c := (c9 : Int)) hch
    dsimp only at hq583
    obtain ⟨hv9, hf9, hl9⟩ := hq583
    subst hv9
    have hB := BX_q hB hf9 hl9
    have hi := iX_q hi hf9
    have hPc := blk_P (bs := ([[(z0, .inr (12, [.ref b, .ref q1, .ref q2, .ref q3, .ref q4, .ref q5, .ref q6, .ref q7])), (q1, .inl (cy 0, 6, .inl fh)), (q2, .inl (cy 0, 30, .inl fd)), (q4, .inl (cy 0, 30, .inl fs))], (w ++ wi3), xW cy xtb a S1] : List va_W)) (rs := ([[(z0, .inr (12, [.ref b, .ref q1, .ref q2, .ref q3, .ref q4, .ref q5, .ref q6, .ref q7])), (q1, .inl (cy 0, 6, .inl fh)), (q2, .inl (cy 0, 30, .inl fd)), (q4, .inl (cy 0, 30, .inl fs))], (w ++ wi3)] : List va_W)) (x := xW cy xtb a S1) 2 rfl rfl hP
    have hDc := blk_D (bs := ([[(z0, .inr (12, [.ref b, .ref q1, .ref q2, .ref q3, .ref q4, .ref q5, .ref q6, .ref q7])), (q1, .inl (cy 0, 6, .inl fh)), (q2, .inl (cy 0, 30, .inl fd)), (q4, .inl (cy 0, 30, .inl fs))], (w ++ wi3), xW cy xtb a S1] : List va_W)) (rs := ([[(z0, .inr (12, [.ref b, .ref q1, .ref q2, .ref q3, .ref q4, .ref q5, .ref q6, .ref q7])), (q1, .inl (cy 0, 6, .inl fh)), (q2, .inl (cy 0, 30, .inl fd)), (q4, .inl (cy 0, 30, .inl fs))], (w ++ wi3)] : List va_W)) (x := xW cy xtb a S1) 2 rfl rfl hD
    refine lw_vi hx hb hml hown hts (K_sub hK) hEx hI hPc hDc hS hA (⟨xw_mem 473 (by decide +kernel) rfl, xw_mem 30 (by decide +kernel) rfl, xw_mem 470 (by decide +kernel) rfl, by decide +kernel⟩ : xML RL 159 yX11_of cX11_of 3 (some .int) 2) (xw_mem 471 (by decide +kernel) rfl) (xw_mem 472 (by decide +kernel) rfl) (he := rfl) (by decide) rfl [.int (ki (c9 : Int)), .int (ki 1)] (rest := []) (c_X11_of hI hf583 _) ⟨by omega, by omega⟩ ⟨by omega, by omega⟩ rfl hl.1 rfl (Nat.le_of_ble_eq_true (rfl)) dL_law_583 (fun H locs hPn hS => ?_)
    have hDn := xD_st (S' := S583) hDc
    have hP := blk_P2 (bs := ([[(z0, .inr (12, [.ref b, .ref q1, .ref q2, .ref q3, .ref q4, .ref q5, .ref q6, .ref q7])), (q1, .inl (cy 0, 6, .inl fh)), (q2, .inl (cy 0, 30, .inl fd)), (q4, .inl (cy 0, 30, .inl fs))], (w ++ wi3), xW cy xtb a S583] : List va_W)) (rs := ([[(z0, .inr (12, [.ref b, .ref q1, .ref q2, .ref q3, .ref q4, .ref q5, .ref q6, .ref q7])), (q1, .inl (cy 0, 6, .inl fh)), (q2, .inl (cy 0, 30, .inl fd)), (q4, .inl (cy 0, 30, .inl fs))], (w ++ wi3)] : List va_W)) (x := xW cy xtb a S583) 2 rfl rfl hPn
    have hD := blk_D2 (bs := ([[(z0, .inr (12, [.ref b, .ref q1, .ref q2, .ref q3, .ref q4, .ref q5, .ref q6, .ref q7])), (q1, .inl (cy 0, 6, .inl fh)), (q2, .inl (cy 0, 30, .inl fd)), (q4, .inl (cy 0, 30, .inl fs))], (w ++ wi3), xW cy xtb a S583] : List va_W)) (rs := ([[(z0, .inr (12, [.ref b, .ref q1, .ref q2, .ref q3, .ref q4, .ref q5, .ref q6, .ref q7])), (q1, .inl (cy 0, 6, .inl fh)), (q2, .inl (cy 0, 30, .inl fd)), (q4, .inl (cy 0, 30, .inl fs))], (w ++ wi3)] : List va_W)) (x := xW cy xtb a S583) 2 rfl rfl hDn
    refine lv_iload hx hb dL_law_586 (lv_at hl 5 rfl) ?_
    refine kv_icmp_ge (tgt := 594) hx hb (by omega) (by omega) (by omega) (by omega) dL_law_588 (by decide) (fun hx4 => ?_) (fun hx4 => ?_)
    · by_cases hcj : (c9 : Int) = jj
      · have hno : ¬ ((c9 : Int) ≠ jj ∧ m0.testBit c9 = true) := fun h => h.1 hcj
        refine lv_iload hx hb dL_law_594 (lv_at hl 0 rfl) ?_
        refine lv_iload hx hb dL_law_596 (lv_at hl 8 rfl) ?_
        refine kv_icmp_eq_t (tgt := 617) hx hb (by omega) (by omega) (by omega) (by omega) (by omega) dL_law_598 (by decide) ?_
        refine lv_iconst (v := ki 0) hx hb dL_law_617 rfl ?_
        refine lv_istore (lv' := [(15, .int (ki 0)), (14, .int (ki (c9 : Int))), (0, .ref b), (1, .ref (a 0)), (2, .ref z0), (3, .ref y), (7, .int (ki x)), (8, .int (ki nn)), (9, .long (kj (m0 : Int))), (11, .int (ki jj)), (12, .int (ki t)), (13, .ref it)]) hx hb dL_law_618 hl (by decide) rfl (fun ls hl => ?_)
        refine lv_aload_n hx hb dL_law_620 rfl (lv_at hl 4 rfl) ?_
        refine lv_iload hx hb dL_law_621 (lv_at hl 1 rfl) ?_
        have hPc := blk_P (bs := ([[(z0, .inr (12, [.ref b, .ref q1, .ref q2, .ref q3, .ref q4, .ref q5, .ref q6, .ref q7])), (q1, .inl (cy 0, 6, .inl fh)), (q2, .inl (cy 0, 30, .inl fd)), (q4, .inl (cy 0, 30, .inl fs))], (w ++ wi3), xW cy xtb a S583] : List va_W)) (rs := ([(w ++ wi3), xW cy xtb a S583] : List va_W)) (x := [(z0, .inr (12, [.ref b, .ref q1, .ref q2, .ref q3, .ref q4, .ref q5, .ref q6, .ref q7])), (q1, .inl (cy 0, 6, .inl fh)), (q2, .inl (cy 0, 30, .inl fd)), (q4, .inl (cy 0, 30, .inl fs))]) 0 rfl rfl hP
        have hDc := blk_D (bs := ([[(z0, .inr (12, [.ref b, .ref q1, .ref q2, .ref q3, .ref q4, .ref q5, .ref q6, .ref q7])), (q1, .inl (cy 0, 6, .inl fh)), (q2, .inl (cy 0, 30, .inl fd)), (q4, .inl (cy 0, 30, .inl fs))], (w ++ wi3), xW cy xtb a S583] : List va_W)) (rs := ([(w ++ wi3), xW cy xtb a S583] : List va_W)) (x := [(z0, .inr (12, [.ref b, .ref q1, .ref q2, .ref q3, .ref q4, .ref q5, .ref q6, .ref q7])), (q1, .inl (cy 0, 6, .inl fh)), (q2, .inl (cy 0, 30, .inl fd)), (q4, .inl (cy 0, 30, .inl fs))]) 0 rfl rfl hD
        refine kc_Vr hx hb hml hown hts (⟨xw_mem 947 (by decide +kernel) rfl, xw_mem 43 (by decide +kernel) rfl, xw_mem 944 (by decide +kernel) rfl, by decide +kernel⟩ : xML RL 162 yX12_beside cX12_beside 3 (some (.object "java/util/ArrayList")) 1) (xw_mem 945 (by decide +kernel) rfl) (xw_mem 946 (by decide +kernel) rfl) (va_recv hK hP (rfl : vwCl[12]? = some (RX12, TX12, 8)) (show ((List.flatten [[(z0, .inr (12, [.ref b, .ref q1, .ref q2, .ref q3, .ref q4, .ref q5, .ref q6, .ref q7])), (q1, .inl (cy 0, 6, .inl fh)), (q2, .inl (cy 0, 30, .inl fd)), (q4, .inl (cy 0, 30, .inl fs))], (w ++ wi3), xW cy xtb a S583]))[0]? = _ from rfl)) hPc hDc hS hA [.int (ki (c9 : Int))] (rest := []) _ _ (c_beside (q := c9) hc30 hh _) jP_bl (fun U hU hW => jP_to hPc hDc hS hA hK hN hZ hU hW) ⟨by omega, by omega⟩ (by omega) (by omega) rfl hl.1 rfl (Nat.le_of_ble_eq_true (rfl)) dL_law_623 (fun y2 v2 t8 H locs ht8 hw8 hB8 hz hJ hS => ?_)
        obtain ⟨hv2, hP1, hD1⟩ := hB8
        rw [ht8] at hP1
        obtain ⟨hPn, hDn⟩ := hJ _ hP1 hD1
        have hP := xP_perm hPn (blk2_perm (bs := ([[(z0, .inr (12, [.ref b, .ref q1, .ref q2, .ref q3, .ref q4, .ref q5, .ref q6, .ref q7])), (q1, .inl (cy 0, 6, .inl fh)), (q2, .inl (cy 0, 30, .inl fd)), (q4, .inl (cy 0, 30, .inl fs))], (w ++ wi3), v2, xW cy xtb a S583] : List va_W)) (r1 := ([[(z0, .inr (12, [.ref b, .ref q1, .ref q2, .ref q3, .ref q4, .ref q5, .ref q6, .ref q7])), (q1, .inl (cy 0, 6, .inl fh)), (q2, .inl (cy 0, 30, .inl fd)), (q4, .inl (cy 0, 30, .inl fs))], (w ++ wi3), xW cy xtb a S583] : List va_W)) (rs := ([(w ++ wi3), xW cy xtb a S583] : List va_W)) (x := [(z0, .inr (12, [.ref b, .ref q1, .ref q2, .ref q3, .ref q4, .ref q5, .ref q6, .ref q7])), (q1, .inl (cy 0, 6, .inl fh)), (q2, .inl (cy 0, 30, .inl fd)), (q4, .inl (cy 0, 30, .inl fs))]) (y := v2) 2 0 rfl rfl rfl rfl).symm
        have hD := xD_perm hDn (blk2_perm (bs := ([[(z0, .inr (12, [.ref b, .ref q1, .ref q2, .ref q3, .ref q4, .ref q5, .ref q6, .ref q7])), (q1, .inl (cy 0, 6, .inl fh)), (q2, .inl (cy 0, 30, .inl fd)), (q4, .inl (cy 0, 30, .inl fs))], (w ++ wi3), v2, xW cy xtb a S583] : List va_W)) (r1 := ([[(z0, .inr (12, [.ref b, .ref q1, .ref q2, .ref q3, .ref q4, .ref q5, .ref q6, .ref q7])), (q1, .inl (cy 0, 6, .inl fh)), (q2, .inl (cy 0, 30, .inl fd)), (q4, .inl (cy 0, 30, .inl fs))], (w ++ wi3), xW cy xtb a S583] : List va_W)) (rs := ([(w ++ wi3), xW cy xtb a S583] : List va_W)) (x := [(z0, .inr (12, [.ref b, .ref q1, .ref q2, .ref q3, .ref q4, .ref q5, .ref q6, .ref q7])), (q1, .inl (cy 0, 6, .inl fh)), (q2, .inl (cy 0, 30, .inl fd)), (q4, .inl (cy 0, 30, .inl fs))]) (y := v2) 2 0 rfl rfl rfl rfl).symm
        have hPc := blk_P (bs := ([[(z0, .inr (12, [.ref b, .ref q1, .ref q2, .ref q3, .ref q4, .ref q5, .ref q6, .ref q7])), (q1, .inl (cy 0, 6, .inl fh)), (q2, .inl (cy 0, 30, .inl fd)), (q4, .inl (cy 0, 30, .inl fs))], (w ++ wi3), v2, xW cy xtb a S583] : List va_W)) (rs := ([[(z0, .inr (12, [.ref b, .ref q1, .ref q2, .ref q3, .ref q4, .ref q5, .ref q6, .ref q7])), (q1, .inl (cy 0, 6, .inl fh)), (q2, .inl (cy 0, 30, .inl fd)), (q4, .inl (cy 0, 30, .inl fs))], (w ++ wi3), xW cy xtb a S583] : List va_W)) (x := v2) 2 rfl rfl hP
        have hDc := blk_D (bs := ([[(z0, .inr (12, [.ref b, .ref q1, .ref q2, .ref q3, .ref q4, .ref q5, .ref q6, .ref q7])), (q1, .inl (cy 0, 6, .inl fh)), (q2, .inl (cy 0, 30, .inl fd)), (q4, .inl (cy 0, 30, .inl fs))], (w ++ wi3), v2, xW cy xtb a S583] : List va_W)) (rs := ([[(z0, .inr (12, [.ref b, .ref q1, .ref q2, .ref q3, .ref q4, .ref q5, .ref q6, .ref q7])), (q1, .inl (cy 0, 6, .inl fh)), (q2, .inl (cy 0, 30, .inl fd)), (q4, .inl (cy 0, 30, .inl fs))], (w ++ wi3), xW cy xtb a S583] : List va_W)) (x := v2) 2 rfl rfl hD
        refine lk_iter hx hb hml hown hts hK hN hZ hS hA hl.1 (Nat.le_of_ble_eq_true (rfl)) (rest := []) (⟨xw_mem 1089 (by decide +kernel) rfl, xw_mem 46 (by decide +kernel) rfl, xw_mem 1086 (by decide +kernel) rfl, by decide +kernel⟩ : xML RL 146 yJx4a65c_iterator_32c93 cJx4a65c_iterator_32c93 1 (some (.object "java/util/Iterator")) 0) hv2 hPc hDc ⟨by omega, by omega⟩ ⟨by omega, by omega⟩ dL_law_626 (fun it2 vi H locs hit hPn hDn hS => ?_)
        have hP := blk_P2 (bs := ([[(z0, .inr (12, [.ref b, .ref q1, .ref q2, .ref q3, .ref q4, .ref q5, .ref q6, .ref q7])), (q1, .inl (cy 0, 6, .inl fh)), (q2, .inl (cy 0, 30, .inl fd)), (q4, .inl (cy 0, 30, .inl fs))], (w ++ wi3), (v2 ++ vi), xW cy xtb a S583] : List va_W)) (rs := ([[(z0, .inr (12, [.ref b, .ref q1, .ref q2, .ref q3, .ref q4, .ref q5, .ref q6, .ref q7])), (q1, .inl (cy 0, 6, .inl fh)), (q2, .inl (cy 0, 30, .inl fd)), (q4, .inl (cy 0, 30, .inl fs))], (w ++ wi3), xW cy xtb a S583] : List va_W)) (x := (v2 ++ vi)) 2 rfl rfl hPn
        have hD := blk_D2 (bs := ([[(z0, .inr (12, [.ref b, .ref q1, .ref q2, .ref q3, .ref q4, .ref q5, .ref q6, .ref q7])), (q1, .inl (cy 0, 6, .inl fh)), (q2, .inl (cy 0, 30, .inl fd)), (q4, .inl (cy 0, 30, .inl fs))], (w ++ wi3), (v2 ++ vi), xW cy xtb a S583] : List va_W)) (rs := ([[(z0, .inr (12, [.ref b, .ref q1, .ref q2, .ref q3, .ref q4, .ref q5, .ref q6, .ref q7])), (q1, .inl (cy 0, 6, .inl fh)), (q2, .inl (cy 0, 30, .inl fd)), (q4, .inl (cy 0, 30, .inl fs))], (w ++ wi3), xW cy xtb a S583] : List va_W)) (x := (v2 ++ vi)) 2 rfl rfl hDn
        refine lv_astore (lv' := [(16, .ref it2), (15, .int (ki 0)), (14, .int (ki (c9 : Int))), (0, .ref b), (1, .ref (a 0)), (2, .ref z0), (3, .ref y), (7, .int (ki x)), (8, .int (ki nn)), (9, .long (kj (m0 : Int))), (11, .int (ki jj)), (12, .int (ki t)), (13, .ref it)]) hx hb dL_law_629 hl (by decide) rfl (fun ls hl => ?_)
        refine RA_1 hx hb hml hown hts hK hN hZ hX hbl hbA hNs hEx hA hI hR hL hF ⟨by omega, by omega⟩ hm0 hjj hv2 (fun S2 vi t5 hB hi hit ht5 hq5 H locs ls hl hP hD hS => ?_) (bsL L xs c9).length 0 (by omega) _ _ 0 hB hi hit (Or.inl rfl) ⟨fun h => absurd h (by decide), fun h => by
          rcases h with h | ⟨t7, h7, _⟩
          · exact absurd h hno
          · exact absurd h7 (Nat.not_lt_zero t7)⟩ _ _ ls (lv_sub hl [3, 4, 5, 6, 7, 8, 9, 10, 11, 12, 2, 1, 0] rfl) hP hD hS
        rcases ht5 with h5 | h5
        · subst h5
          refine lv_iload hx hb dL_law_688 (lv_at hl 8 rfl) ?_
          refine lv_iload hx hb dL_law_690 (lv_at hl 11 rfl) ?_
          refine lv_iand hx hb dL_law_692 ?_
          rw [show ki t &&& ki 0 = ki 0 from by rcases ht9 with rfl | rfl <;> rfl]
          refine lv_istore (lv' := [(12, .int (ki 0)), (0, .ref b), (1, .ref (a 0)), (2, .ref z0), (3, .ref y), (7, .int (ki x)), (8, .int (ki nn)), (9, .long (kj (m0 : Int))), (11, .int (ki jj)), (13, .ref it), (14, .int (ki (c9 : Int))), (15, .int (ki 0))]) hx hb dL_law_693 hl (by decide) rfl (fun ls hl => ?_)
          refine lv_goto (tgt := 554) hx hb dL_law_695 (by decide) ?_
          have hP := drp_P (bs := ([[(z0, .inr (12, [.ref b, .ref q1, .ref q2, .ref q3, .ref q4, .ref q5, .ref q6, .ref q7])), (q1, .inl (cy 0, 6, .inl fh)), (q2, .inl (cy 0, 30, .inl fd)), (q4, .inl (cy 0, 30, .inl fs))], (w ++ wi3), (v2 ++ vi), xW cy xtb a S2] : List va_W)) (rs := ([[(z0, .inr (12, [.ref b, .ref q1, .ref q2, .ref q3, .ref q4, .ref q5, .ref q6, .ref q7])), (q1, .inl (cy 0, 6, .inl fh)), (q2, .inl (cy 0, 30, .inl fd)), (q4, .inl (cy 0, 30, .inl fs))], (w ++ wi3), xW cy xtb a S2] : List va_W)) (x := (v2 ++ vi)) 2 rfl rfl hP
          have hD := drp_D (bs := ([[(z0, .inr (12, [.ref b, .ref q1, .ref q2, .ref q3, .ref q4, .ref q5, .ref q6, .ref q7])), (q1, .inl (cy 0, 6, .inl fh)), (q2, .inl (cy 0, 30, .inl fd)), (q4, .inl (cy 0, 30, .inl fs))], (w ++ wi3), (v2 ++ vi), xW cy xtb a S2] : List va_W)) (rs := ([[(z0, .inr (12, [.ref b, .ref q1, .ref q2, .ref q3, .ref q4, .ref q5, .ref q6, .ref q7])), (q1, .inl (cy 0, 6, .inl fh)), (q2, .inl (cy 0, 30, .inl fd)), (q4, .inl (cy 0, 30, .inl fs))], (w ++ wi3), xW cy xtb a S2] : List va_W)) (x := (v2 ++ vi)) 2 rfl rfl hD
          exact ih (i + 1) (by omega) _ _ 0 _ _ (by omega) (by omega) hB hi hio (Or.inl rfl) (by rw [chkP_s hc0]; exact ⟨fun h => absurd h (by decide), fun h => absurd (hq5.mpr (tkP_e.mpr (h.2 hx4))) (by decide)⟩) _ _ ls (lv_sub hl [1, 2, 3, 4, 5, 6, 7, 8, 0, 9] rfl) hP hD hS
        · subst h5
          refine lv_iload hx hb dL_law_688 (lv_at hl 8 rfl) ?_
          refine lv_iload hx hb dL_law_690 (lv_at hl 11 rfl) ?_
          refine lv_iand hx hb dL_law_692 ?_
          rw [show ki t &&& ki 1 = ki t from by rcases ht9 with rfl | rfl <;> rfl]
          refine lv_istore (lv' := [(12, .int (ki t)), (0, .ref b), (1, .ref (a 0)), (2, .ref z0), (3, .ref y), (7, .int (ki x)), (8, .int (ki nn)), (9, .long (kj (m0 : Int))), (11, .int (ki jj)), (13, .ref it), (14, .int (ki (c9 : Int))), (15, .int (ki 1))]) hx hb dL_law_693 hl (by decide) rfl (fun ls hl => ?_)
          refine lv_goto (tgt := 554) hx hb dL_law_695 (by decide) ?_
          have hP := drp_P (bs := ([[(z0, .inr (12, [.ref b, .ref q1, .ref q2, .ref q3, .ref q4, .ref q5, .ref q6, .ref q7])), (q1, .inl (cy 0, 6, .inl fh)), (q2, .inl (cy 0, 30, .inl fd)), (q4, .inl (cy 0, 30, .inl fs))], (w ++ wi3), (v2 ++ vi), xW cy xtb a S2] : List va_W)) (rs := ([[(z0, .inr (12, [.ref b, .ref q1, .ref q2, .ref q3, .ref q4, .ref q5, .ref q6, .ref q7])), (q1, .inl (cy 0, 6, .inl fh)), (q2, .inl (cy 0, 30, .inl fd)), (q4, .inl (cy 0, 30, .inl fs))], (w ++ wi3), xW cy xtb a S2] : List va_W)) (x := (v2 ++ vi)) 2 rfl rfl hP
          have hD := drp_D (bs := ([[(z0, .inr (12, [.ref b, .ref q1, .ref q2, .ref q3, .ref q4, .ref q5, .ref q6, .ref q7])), (q1, .inl (cy 0, 6, .inl fh)), (q2, .inl (cy 0, 30, .inl fd)), (q4, .inl (cy 0, 30, .inl fs))], (w ++ wi3), (v2 ++ vi), xW cy xtb a S2] : List va_W)) (rs := ([[(z0, .inr (12, [.ref b, .ref q1, .ref q2, .ref q3, .ref q4, .ref q5, .ref q6, .ref q7])), (q1, .inl (cy 0, 6, .inl fh)), (q2, .inl (cy 0, 30, .inl fd)), (q4, .inl (cy 0, 30, .inl fs))], (w ++ wi3), xW cy xtb a S2] : List va_W)) (x := (v2 ++ vi)) 2 rfl rfl hD
          exact ih (i + 1) (by omega) _ _ t _ _ (by omega) (by omega) hB hi hio ht9 (by rw [chkP_s hc0]; exact ⟨fun h => ⟨hq9.mp h, fun _ => tkP_e.mp (hq5.mp rfl)⟩, fun h => hq9.mpr h.1⟩) _ _ ls (lv_sub hl [1, 2, 3, 4, 5, 6, 7, 8, 0, 9] rfl) hP hD hS
      · by_cases hbit : m0.testBit c9 = true
        · refine lv_iload hx hb dL_law_594 (lv_at hl 0 rfl) ?_
          refine lv_iload hx hb dL_law_596 (lv_at hl 8 rfl) ?_
          refine kv_icmp_eq_f (tgt := 617) hx hb (by omega) (by omega) (by omega) (by omega) (by omega) dL_law_598 (by decide) ?_
          refine lv_lload hx hb dL_law_601 (lv_at hl 7 rfl) ?_
          refine lv_iload hx hb dL_law_603 (lv_at hl 0 rfl) ?_
          refine lv_lshr (v := kj ((m0 : Int) / ((2 ^ (c9 : Int).toNat : Nat) : Int))) hx hb dL_law_605 (kv_lshr (by omega) (by omega) (by omega) (by omega)) ?_
          refine lv_lconst (v := kj 1) hx hb dL_law_606 rfl ?_
          have hdv := dv_b (x := (m0 : Int)) (by omega) (c9)
          refine lv_land hx hb dL_law_607 ?_
          rw [show (kj ((m0 : Int) / ((2 ^ (c9 : Int).toNat : Nat) : Int)) &&& kj 1) = kj (((m0 : Int) / ((2 ^ (c9 : Int).toNat : Nat) : Int)) % 2) from kv_land1 (show 0 ≤ (m0 : Int) / ((2 ^ c9 : Nat) : Int) by omega) (show (m0 : Int) / ((2 ^ c9 : Nat) : Int) < 1000000000000 by omega), show ((m0 : Int) / ((2 ^ (c9 : Int).toNat : Nat) : Int)) % 2 = 1 from (bit_I (m0 := m0) (q := c9)).trans (if_pos hbit)]
          refine lv_lconst (v := kj 1) hx hb dL_law_608 rfl ?_
          refine W.lcmp hx hb dL_law_609 ?_
          rw [kJ_cmp (a := 1) (b := 1) (by omega) (by omega) (by omega) (by omega), show (if (1 : Int) < 1 then (1 : Int) else if (1 : Int) = 1 then 0 else -1) = 0 from by decide]
          refine kv_if_ne_f (tgt := 617) hx hb (by omega) (by omega) (by omega) dL_law_610 (by decide) ?_
          refine lv_iconst (v := ki 1) hx hb dL_law_613 rfl ?_
          refine lv_goto (tgt := 618) hx hb dL_law_614 (by decide) ?_
          refine lv_istore (lv' := [(15, .int (ki 1)), (14, .int (ki (c9 : Int))), (0, .ref b), (1, .ref (a 0)), (2, .ref z0), (3, .ref y), (7, .int (ki x)), (8, .int (ki nn)), (9, .long (kj (m0 : Int))), (11, .int (ki jj)), (12, .int (ki t)), (13, .ref it)]) hx hb dL_law_618 hl (by decide) rfl (fun ls hl => ?_)
          refine lv_aload_n hx hb dL_law_620 rfl (lv_at hl 4 rfl) ?_
          refine lv_iload hx hb dL_law_621 (lv_at hl 1 rfl) ?_
          have hPc := blk_P (bs := ([[(z0, .inr (12, [.ref b, .ref q1, .ref q2, .ref q3, .ref q4, .ref q5, .ref q6, .ref q7])), (q1, .inl (cy 0, 6, .inl fh)), (q2, .inl (cy 0, 30, .inl fd)), (q4, .inl (cy 0, 30, .inl fs))], (w ++ wi3), xW cy xtb a S583] : List va_W)) (rs := ([(w ++ wi3), xW cy xtb a S583] : List va_W)) (x := [(z0, .inr (12, [.ref b, .ref q1, .ref q2, .ref q3, .ref q4, .ref q5, .ref q6, .ref q7])), (q1, .inl (cy 0, 6, .inl fh)), (q2, .inl (cy 0, 30, .inl fd)), (q4, .inl (cy 0, 30, .inl fs))]) 0 rfl rfl hP
          have hDc := blk_D (bs := ([[(z0, .inr (12, [.ref b, .ref q1, .ref q2, .ref q3, .ref q4, .ref q5, .ref q6, .ref q7])), (q1, .inl (cy 0, 6, .inl fh)), (q2, .inl (cy 0, 30, .inl fd)), (q4, .inl (cy 0, 30, .inl fs))], (w ++ wi3), xW cy xtb a S583] : List va_W)) (rs := ([(w ++ wi3), xW cy xtb a S583] : List va_W)) (x := [(z0, .inr (12, [.ref b, .ref q1, .ref q2, .ref q3, .ref q4, .ref q5, .ref q6, .ref q7])), (q1, .inl (cy 0, 6, .inl fh)), (q2, .inl (cy 0, 30, .inl fd)), (q4, .inl (cy 0, 30, .inl fs))]) 0 rfl rfl hD
          refine kc_Vr hx hb hml hown hts (⟨xw_mem 947 (by decide +kernel) rfl, xw_mem 43 (by decide +kernel) rfl, xw_mem 944 (by decide +kernel) rfl, by decide +kernel⟩ : xML RL 162 yX12_beside cX12_beside 3 (some (.object "java/util/ArrayList")) 1) (xw_mem 945 (by decide +kernel) rfl) (xw_mem 946 (by decide +kernel) rfl) (va_recv hK hP (rfl : vwCl[12]? = some (RX12, TX12, 8)) (show ((List.flatten [[(z0, .inr (12, [.ref b, .ref q1, .ref q2, .ref q3, .ref q4, .ref q5, .ref q6, .ref q7])), (q1, .inl (cy 0, 6, .inl fh)), (q2, .inl (cy 0, 30, .inl fd)), (q4, .inl (cy 0, 30, .inl fs))], (w ++ wi3), xW cy xtb a S583]))[0]? = _ from rfl)) hPc hDc hS hA [.int (ki (c9 : Int))] (rest := []) _ _ (c_beside (q := c9) hc30 hh _) jP_bl (fun U hU hW => jP_to hPc hDc hS hA hK hN hZ hU hW) ⟨by omega, by omega⟩ (by omega) (by omega) rfl hl.1 rfl (Nat.le_of_ble_eq_true (rfl)) dL_law_623 (fun y2 v2 t8 H locs ht8 hw8 hB8 hz hJ hS => ?_)
          obtain ⟨hv2, hP1, hD1⟩ := hB8
          rw [ht8] at hP1
          obtain ⟨hPn, hDn⟩ := hJ _ hP1 hD1
          have hP := xP_perm hPn (blk2_perm (bs := ([[(z0, .inr (12, [.ref b, .ref q1, .ref q2, .ref q3, .ref q4, .ref q5, .ref q6, .ref q7])), (q1, .inl (cy 0, 6, .inl fh)), (q2, .inl (cy 0, 30, .inl fd)), (q4, .inl (cy 0, 30, .inl fs))], (w ++ wi3), v2, xW cy xtb a S583] : List va_W)) (r1 := ([[(z0, .inr (12, [.ref b, .ref q1, .ref q2, .ref q3, .ref q4, .ref q5, .ref q6, .ref q7])), (q1, .inl (cy 0, 6, .inl fh)), (q2, .inl (cy 0, 30, .inl fd)), (q4, .inl (cy 0, 30, .inl fs))], (w ++ wi3), xW cy xtb a S583] : List va_W)) (rs := ([(w ++ wi3), xW cy xtb a S583] : List va_W)) (x := [(z0, .inr (12, [.ref b, .ref q1, .ref q2, .ref q3, .ref q4, .ref q5, .ref q6, .ref q7])), (q1, .inl (cy 0, 6, .inl fh)), (q2, .inl (cy 0, 30, .inl fd)), (q4, .inl (cy 0, 30, .inl fs))]) (y := v2) 2 0 rfl rfl rfl rfl).symm
          have hD := xD_perm hDn (blk2_perm (bs := ([[(z0, .inr (12, [.ref b, .ref q1, .ref q2, .ref q3, .ref q4, .ref q5, .ref q6, .ref q7])), (q1, .inl (cy 0, 6, .inl fh)), (q2, .inl (cy 0, 30, .inl fd)), (q4, .inl (cy 0, 30, .inl fs))], (w ++ wi3), v2, xW cy xtb a S583] : List va_W)) (r1 := ([[(z0, .inr (12, [.ref b, .ref q1, .ref q2, .ref q3, .ref q4, .ref q5, .ref q6, .ref q7])), (q1, .inl (cy 0, 6, .inl fh)), (q2, .inl (cy 0, 30, .inl fd)), (q4, .inl (cy 0, 30, .inl fs))], (w ++ wi3), xW cy xtb a S583] : List va_W)) (rs := ([(w ++ wi3), xW cy xtb a S583] : List va_W)) (x := [(z0, .inr (12, [.ref b, .ref q1, .ref q2, .ref q3, .ref q4, .ref q5, .ref q6, .ref q7])), (q1, .inl (cy 0, 6, .inl fh)), (q2, .inl (cy 0, 30, .inl fd)), (q4, .inl (cy 0, 30, .inl fs))]) (y := v2) 2 0 rfl rfl rfl rfl).symm
          have hPc := blk_P (bs := ([[(z0, .inr (12, [.ref b, .ref q1, .ref q2, .ref q3, .ref q4, .ref q5, .ref q6, .ref q7])), (q1, .inl (cy 0, 6, .inl fh)), (q2, .inl (cy 0, 30, .inl fd)), (q4, .inl (cy 0, 30, .inl fs))], (w ++ wi3), v2, xW cy xtb a S583] : List va_W)) (rs := ([[(z0, .inr (12, [.ref b, .ref q1, .ref q2, .ref q3, .ref q4, .ref q5, .ref q6, .ref q7])), (q1, .inl (cy 0, 6, .inl fh)), (q2, .inl (cy 0, 30, .inl fd)), (q4, .inl (cy 0, 30, .inl fs))], (w ++ wi3), xW cy xtb a S583] : List va_W)) (x := v2) 2 rfl rfl hP
          have hDc := blk_D (bs := ([[(z0, .inr (12, [.ref b, .ref q1, .ref q2, .ref q3, .ref q4, .ref q5, .ref q6, .ref q7])), (q1, .inl (cy 0, 6, .inl fh)), (q2, .inl (cy 0, 30, .inl fd)), (q4, .inl (cy 0, 30, .inl fs))], (w ++ wi3), v2, xW cy xtb a S583] : List va_W)) (rs := ([[(z0, .inr (12, [.ref b, .ref q1, .ref q2, .ref q3, .ref q4, .ref q5, .ref q6, .ref q7])), (q1, .inl (cy 0, 6, .inl fh)), (q2, .inl (cy 0, 30, .inl fd)), (q4, .inl (cy 0, 30, .inl fs))], (w ++ wi3), xW cy xtb a S583] : List va_W)) (x := v2) 2 rfl rfl hD
          refine lk_iter hx hb hml hown hts hK hN hZ hS hA hl.1 (Nat.le_of_ble_eq_true (rfl)) (rest := []) (⟨xw_mem 1089 (by decide +kernel) rfl, xw_mem 46 (by decide +kernel) rfl, xw_mem 1086 (by decide +kernel) rfl, by decide +kernel⟩ : xML RL 146 yJx4a65c_iterator_32c93 cJx4a65c_iterator_32c93 1 (some (.object "java/util/Iterator")) 0) hv2 hPc hDc ⟨by omega, by omega⟩ ⟨by omega, by omega⟩ dL_law_626 (fun it2 vi H locs hit hPn hDn hS => ?_)
          have hP := blk_P2 (bs := ([[(z0, .inr (12, [.ref b, .ref q1, .ref q2, .ref q3, .ref q4, .ref q5, .ref q6, .ref q7])), (q1, .inl (cy 0, 6, .inl fh)), (q2, .inl (cy 0, 30, .inl fd)), (q4, .inl (cy 0, 30, .inl fs))], (w ++ wi3), (v2 ++ vi), xW cy xtb a S583] : List va_W)) (rs := ([[(z0, .inr (12, [.ref b, .ref q1, .ref q2, .ref q3, .ref q4, .ref q5, .ref q6, .ref q7])), (q1, .inl (cy 0, 6, .inl fh)), (q2, .inl (cy 0, 30, .inl fd)), (q4, .inl (cy 0, 30, .inl fs))], (w ++ wi3), xW cy xtb a S583] : List va_W)) (x := (v2 ++ vi)) 2 rfl rfl hPn
          have hD := blk_D2 (bs := ([[(z0, .inr (12, [.ref b, .ref q1, .ref q2, .ref q3, .ref q4, .ref q5, .ref q6, .ref q7])), (q1, .inl (cy 0, 6, .inl fh)), (q2, .inl (cy 0, 30, .inl fd)), (q4, .inl (cy 0, 30, .inl fs))], (w ++ wi3), (v2 ++ vi), xW cy xtb a S583] : List va_W)) (rs := ([[(z0, .inr (12, [.ref b, .ref q1, .ref q2, .ref q3, .ref q4, .ref q5, .ref q6, .ref q7])), (q1, .inl (cy 0, 6, .inl fh)), (q2, .inl (cy 0, 30, .inl fd)), (q4, .inl (cy 0, 30, .inl fs))], (w ++ wi3), xW cy xtb a S583] : List va_W)) (x := (v2 ++ vi)) 2 rfl rfl hDn
          refine lv_astore (lv' := [(16, .ref it2), (15, .int (ki 1)), (14, .int (ki (c9 : Int))), (0, .ref b), (1, .ref (a 0)), (2, .ref z0), (3, .ref y), (7, .int (ki x)), (8, .int (ki nn)), (9, .long (kj (m0 : Int))), (11, .int (ki jj)), (12, .int (ki t)), (13, .ref it)]) hx hb dL_law_629 hl (by decide) rfl (fun ls hl => ?_)
          refine RA_1 hx hb hml hown hts hK hN hZ hX hbl hbA hNs hEx hA hI hR hL hF ⟨by omega, by omega⟩ hm0 hjj hv2 (fun S2 vi t5 hB hi hit ht5 hq5 H locs ls hl hP hD hS => ?_) (bsL L xs c9).length 0 (by omega) _ _ 1 hB hi hit (Or.inr rfl) ⟨fun _ => Or.inl ⟨hcj, hbit⟩, fun _ => rfl⟩ _ _ ls (lv_sub hl [3, 4, 5, 6, 7, 8, 9, 10, 11, 12, 2, 1, 0] rfl) hP hD hS
          rcases ht5 with h5 | h5
          · subst h5
            refine lv_iload hx hb dL_law_688 (lv_at hl 8 rfl) ?_
            refine lv_iload hx hb dL_law_690 (lv_at hl 11 rfl) ?_
            refine lv_iand hx hb dL_law_692 ?_
            rw [show ki t &&& ki 0 = ki 0 from by rcases ht9 with rfl | rfl <;> rfl]
            refine lv_istore (lv' := [(12, .int (ki 0)), (0, .ref b), (1, .ref (a 0)), (2, .ref z0), (3, .ref y), (7, .int (ki x)), (8, .int (ki nn)), (9, .long (kj (m0 : Int))), (11, .int (ki jj)), (13, .ref it), (14, .int (ki (c9 : Int))), (15, .int (ki 0))]) hx hb dL_law_693 hl (by decide) rfl (fun ls hl => ?_)
            refine lv_goto (tgt := 554) hx hb dL_law_695 (by decide) ?_
            have hP := drp_P (bs := ([[(z0, .inr (12, [.ref b, .ref q1, .ref q2, .ref q3, .ref q4, .ref q5, .ref q6, .ref q7])), (q1, .inl (cy 0, 6, .inl fh)), (q2, .inl (cy 0, 30, .inl fd)), (q4, .inl (cy 0, 30, .inl fs))], (w ++ wi3), (v2 ++ vi), xW cy xtb a S2] : List va_W)) (rs := ([[(z0, .inr (12, [.ref b, .ref q1, .ref q2, .ref q3, .ref q4, .ref q5, .ref q6, .ref q7])), (q1, .inl (cy 0, 6, .inl fh)), (q2, .inl (cy 0, 30, .inl fd)), (q4, .inl (cy 0, 30, .inl fs))], (w ++ wi3), xW cy xtb a S2] : List va_W)) (x := (v2 ++ vi)) 2 rfl rfl hP
            have hD := drp_D (bs := ([[(z0, .inr (12, [.ref b, .ref q1, .ref q2, .ref q3, .ref q4, .ref q5, .ref q6, .ref q7])), (q1, .inl (cy 0, 6, .inl fh)), (q2, .inl (cy 0, 30, .inl fd)), (q4, .inl (cy 0, 30, .inl fs))], (w ++ wi3), (v2 ++ vi), xW cy xtb a S2] : List va_W)) (rs := ([[(z0, .inr (12, [.ref b, .ref q1, .ref q2, .ref q3, .ref q4, .ref q5, .ref q6, .ref q7])), (q1, .inl (cy 0, 6, .inl fh)), (q2, .inl (cy 0, 30, .inl fd)), (q4, .inl (cy 0, 30, .inl fs))], (w ++ wi3), xW cy xtb a S2] : List va_W)) (x := (v2 ++ vi)) 2 rfl rfl hD
            exact ih (i + 1) (by omega) _ _ 0 _ _ (by omega) (by omega) hB hi hio (Or.inl rfl) (by rw [chkP_s hc0]; exact ⟨fun h => absurd h (by decide), fun h => absurd (hq5.mpr (tkP_e.mpr (h.2 hx4))) (by decide)⟩) _ _ ls (lv_sub hl [1, 2, 3, 4, 5, 6, 7, 8, 0, 9] rfl) hP hD hS
          · subst h5
            refine lv_iload hx hb dL_law_688 (lv_at hl 8 rfl) ?_
            refine lv_iload hx hb dL_law_690 (lv_at hl 11 rfl) ?_
            refine lv_iand hx hb dL_law_692 ?_
            rw [show ki t &&& ki 1 = ki t from by rcases ht9 with rfl | rfl <;> rfl]
            refine lv_istore (lv' := [(12, .int (ki t)), (0, .ref b), (1, .ref (a 0)), (2, .ref z0), (3, .ref y), (7, .int (ki x)), (8, .int (ki nn)), (9, .long (kj (m0 : Int))), (11, .int (ki jj)), (13, .ref it), (14, .int (ki (c9 : Int))), (15, .int (ki 1))]) hx hb dL_law_693 hl (by decide) rfl (fun ls hl => ?_)
            refine lv_goto (tgt := 554) hx hb dL_law_695 (by decide) ?_
            have hP := drp_P (bs := ([[(z0, .inr (12, [.ref b, .ref q1, .ref q2, .ref q3, .ref q4, .ref q5, .ref q6, .ref q7])), (q1, .inl (cy 0, 6, .inl fh)), (q2, .inl (cy 0, 30, .inl fd)), (q4, .inl (cy 0, 30, .inl fs))], (w ++ wi3), (v2 ++ vi), xW cy xtb a S2] : List va_W)) (rs := ([[(z0, .inr (12, [.ref b, .ref q1, .ref q2, .ref q3, .ref q4, .ref q5, .ref q6, .ref q7])), (q1, .inl (cy 0, 6, .inl fh)), (q2, .inl (cy 0, 30, .inl fd)), (q4, .inl (cy 0, 30, .inl fs))], (w ++ wi3), xW cy xtb a S2] : List va_W)) (x := (v2 ++ vi)) 2 rfl rfl hP
            have hD := drp_D (bs := ([[(z0, .inr (12, [.ref b, .ref q1, .ref q2, .ref q3, .ref q4, .ref q5, .ref q6, .ref q7])), (q1, .inl (cy 0, 6, .inl fh)), (q2, .inl (cy 0, 30, .inl fd)), (q4, .inl (cy 0, 30, .inl fs))], (w ++ wi3), (v2 ++ vi), xW cy xtb a S2] : List va_W)) (rs := ([[(z0, .inr (12, [.ref b, .ref q1, .ref q2, .ref q3, .ref q4, .ref q5, .ref q6, .ref q7])), (q1, .inl (cy 0, 6, .inl fh)), (q2, .inl (cy 0, 30, .inl fd)), (q4, .inl (cy 0, 30, .inl fs))], (w ++ wi3), xW cy xtb a S2] : List va_W)) (x := (v2 ++ vi)) 2 rfl rfl hD
            exact ih (i + 1) (by omega) _ _ t _ _ (by omega) (by omega) hB hi hio ht9 (by rw [chkP_s hc0]; exact ⟨fun h => ⟨hq9.mp h, fun _ => tkP_e.mp (hq5.mp rfl)⟩, fun h => hq9.mpr h.1⟩) _ _ ls (lv_sub hl [1, 2, 3, 4, 5, 6, 7, 8, 0, 9] rfl) hP hD hS
        · have hno : ¬ ((c9 : Int) ≠ jj ∧ m0.testBit c9 = true) := fun h => hbit h.2
          refine lv_iload hx hb dL_law_594 (lv_at hl 0 rfl) ?_
          refine lv_iload hx hb dL_law_596 (lv_at hl 8 rfl) ?_
          refine kv_icmp_eq_f (tgt := 617) hx hb (by omega) (by omega) (by omega) (by omega) (by omega) dL_law_598 (by decide) ?_
          refine lv_lload hx hb dL_law_601 (lv_at hl 7 rfl) ?_
          refine lv_iload hx hb dL_law_603 (lv_at hl 0 rfl) ?_
          refine lv_lshr (v := kj ((m0 : Int) / ((2 ^ (c9 : Int).toNat : Nat) : Int))) hx hb dL_law_605 (kv_lshr (by omega) (by omega) (by omega) (by omega)) ?_
          refine lv_lconst (v := kj 1) hx hb dL_law_606 rfl ?_
          have hdv := dv_b (x := (m0 : Int)) (by omega) (c9)
          refine lv_land hx hb dL_law_607 ?_
          rw [show (kj ((m0 : Int) / ((2 ^ (c9 : Int).toNat : Nat) : Int)) &&& kj 1) = kj (((m0 : Int) / ((2 ^ (c9 : Int).toNat : Nat) : Int)) % 2) from kv_land1 (show 0 ≤ (m0 : Int) / ((2 ^ c9 : Nat) : Int) by omega) (show (m0 : Int) / ((2 ^ c9 : Nat) : Int) < 1000000000000 by omega), show ((m0 : Int) / ((2 ^ (c9 : Int).toNat : Nat) : Int)) % 2 = 0 from (bit_I (m0 := m0) (q := c9)).trans (if_neg hbit)]
          refine lv_lconst (v := kj 1) hx hb dL_law_608 rfl ?_
          refine W.lcmp hx hb dL_law_609 ?_
          rw [kJ_cmp (a := 0) (b := 1) (by omega) (by omega) (by omega) (by omega), show (if (1 : Int) < 0 then (1 : Int) else if (0 : Int) = 1 then 0 else -1) = (-1) from by decide]
          refine kv_if_ne_t (tgt := 617) hx hb (by omega) (by omega) (by omega) dL_law_610 (by decide) ?_
          refine lv_iconst (v := ki 0) hx hb dL_law_617 rfl ?_
          refine lv_istore (lv' := [(15, .int (ki 0)), (14, .int (ki (c9 : Int))), (0, .ref b), (1, .ref (a 0)), (2, .ref z0), (3, .ref y), (7, .int (ki x)), (8, .int (ki nn)), (9, .long (kj (m0 : Int))), (11, .int (ki jj)), (12, .int (ki t)), (13, .ref it)]) hx hb dL_law_618 hl (by decide) rfl (fun ls hl => ?_)
          refine lv_aload_n hx hb dL_law_620 rfl (lv_at hl 4 rfl) ?_
          refine lv_iload hx hb dL_law_621 (lv_at hl 1 rfl) ?_
          have hPc := blk_P (bs := ([[(z0, .inr (12, [.ref b, .ref q1, .ref q2, .ref q3, .ref q4, .ref q5, .ref q6, .ref q7])), (q1, .inl (cy 0, 6, .inl fh)), (q2, .inl (cy 0, 30, .inl fd)), (q4, .inl (cy 0, 30, .inl fs))], (w ++ wi3), xW cy xtb a S583] : List va_W)) (rs := ([(w ++ wi3), xW cy xtb a S583] : List va_W)) (x := [(z0, .inr (12, [.ref b, .ref q1, .ref q2, .ref q3, .ref q4, .ref q5, .ref q6, .ref q7])), (q1, .inl (cy 0, 6, .inl fh)), (q2, .inl (cy 0, 30, .inl fd)), (q4, .inl (cy 0, 30, .inl fs))]) 0 rfl rfl hP
          have hDc := blk_D (bs := ([[(z0, .inr (12, [.ref b, .ref q1, .ref q2, .ref q3, .ref q4, .ref q5, .ref q6, .ref q7])), (q1, .inl (cy 0, 6, .inl fh)), (q2, .inl (cy 0, 30, .inl fd)), (q4, .inl (cy 0, 30, .inl fs))], (w ++ wi3), xW cy xtb a S583] : List va_W)) (rs := ([(w ++ wi3), xW cy xtb a S583] : List va_W)) (x := [(z0, .inr (12, [.ref b, .ref q1, .ref q2, .ref q3, .ref q4, .ref q5, .ref q6, .ref q7])), (q1, .inl (cy 0, 6, .inl fh)), (q2, .inl (cy 0, 30, .inl fd)), (q4, .inl (cy 0, 30, .inl fs))]) 0 rfl rfl hD
          refine kc_Vr hx hb hml hown hts (⟨xw_mem 947 (by decide +kernel) rfl, xw_mem 43 (by decide +kernel) rfl, xw_mem 944 (by decide +kernel) rfl, by decide +kernel⟩ : xML RL 162 yX12_beside cX12_beside 3 (some (.object "java/util/ArrayList")) 1) (xw_mem 945 (by decide +kernel) rfl) (xw_mem 946 (by decide +kernel) rfl) (va_recv hK hP (rfl : vwCl[12]? = some (RX12, TX12, 8)) (show ((List.flatten [[(z0, .inr (12, [.ref b, .ref q1, .ref q2, .ref q3, .ref q4, .ref q5, .ref q6, .ref q7])), (q1, .inl (cy 0, 6, .inl fh)), (q2, .inl (cy 0, 30, .inl fd)), (q4, .inl (cy 0, 30, .inl fs))], (w ++ wi3), xW cy xtb a S583]))[0]? = _ from rfl)) hPc hDc hS hA [.int (ki (c9 : Int))] (rest := []) _ _ (c_beside (q := c9) hc30 hh _) jP_bl (fun U hU hW => jP_to hPc hDc hS hA hK hN hZ hU hW) ⟨by omega, by omega⟩ (by omega) (by omega) rfl hl.1 rfl (Nat.le_of_ble_eq_true (rfl)) dL_law_623 (fun y2 v2 t8 H locs ht8 hw8 hB8 hz hJ hS => ?_)
          obtain ⟨hv2, hP1, hD1⟩ := hB8
          rw [ht8] at hP1
          obtain ⟨hPn, hDn⟩ := hJ _ hP1 hD1
          have hP := xP_perm hPn (blk2_perm (bs := ([[(z0, .inr (12, [.ref b, .ref q1, .ref q2, .ref q3, .ref q4, .ref q5, .ref q6, .ref q7])), (q1, .inl (cy 0, 6, .inl fh)), (q2, .inl (cy 0, 30, .inl fd)), (q4, .inl (cy 0, 30, .inl fs))], (w ++ wi3), v2, xW cy xtb a S583] : List va_W)) (r1 := ([[(z0, .inr (12, [.ref b, .ref q1, .ref q2, .ref q3, .ref q4, .ref q5, .ref q6, .ref q7])), (q1, .inl (cy 0, 6, .inl fh)), (q2, .inl (cy 0, 30, .inl fd)), (q4, .inl (cy 0, 30, .inl fs))], (w ++ wi3), xW cy xtb a S583] : List va_W)) (rs := ([(w ++ wi3), xW cy xtb a S583] : List va_W)) (x := [(z0, .inr (12, [.ref b, .ref q1, .ref q2, .ref q3, .ref q4, .ref q5, .ref q6, .ref q7])), (q1, .inl (cy 0, 6, .inl fh)), (q2, .inl (cy 0, 30, .inl fd)), (q4, .inl (cy 0, 30, .inl fs))]) (y := v2) 2 0 rfl rfl rfl rfl).symm
          have hD := xD_perm hDn (blk2_perm (bs := ([[(z0, .inr (12, [.ref b, .ref q1, .ref q2, .ref q3, .ref q4, .ref q5, .ref q6, .ref q7])), (q1, .inl (cy 0, 6, .inl fh)), (q2, .inl (cy 0, 30, .inl fd)), (q4, .inl (cy 0, 30, .inl fs))], (w ++ wi3), v2, xW cy xtb a S583] : List va_W)) (r1 := ([[(z0, .inr (12, [.ref b, .ref q1, .ref q2, .ref q3, .ref q4, .ref q5, .ref q6, .ref q7])), (q1, .inl (cy 0, 6, .inl fh)), (q2, .inl (cy 0, 30, .inl fd)), (q4, .inl (cy 0, 30, .inl fs))], (w ++ wi3), xW cy xtb a S583] : List va_W)) (rs := ([(w ++ wi3), xW cy xtb a S583] : List va_W)) (x := [(z0, .inr (12, [.ref b, .ref q1, .ref q2, .ref q3, .ref q4, .ref q5, .ref q6, .ref q7])), (q1, .inl (cy 0, 6, .inl fh)), (q2, .inl (cy 0, 30, .inl fd)), (q4, .inl (cy 0, 30, .inl fs))]) (y := v2) 2 0 rfl rfl rfl rfl).symm
          have hPc := blk_P (bs := ([[(z0, .inr (12, [.ref b, .ref q1, .ref q2, .ref q3, .ref q4, .ref q5, .ref q6, .ref q7])), (q1, .inl (cy 0, 6, .inl fh)), (q2, .inl (cy 0, 30, .inl fd)), (q4, .inl (cy 0, 30, .inl fs))], (w ++ wi3), v2, xW cy xtb a S583] : List va_W)) (rs := ([[(z0, .inr (12, [.ref b, .ref q1, .ref q2, .ref q3, .ref q4, .ref q5, .ref q6, .ref q7])), (q1, .inl (cy 0, 6, .inl fh)), (q2, .inl (cy 0, 30, .inl fd)), (q4, .inl (cy 0, 30, .inl fs))], (w ++ wi3), xW cy xtb a S583] : List va_W)) (x := v2) 2 rfl rfl hP
          have hDc := blk_D (bs := ([[(z0, .inr (12, [.ref b, .ref q1, .ref q2, .ref q3, .ref q4, .ref q5, .ref q6, .ref q7])), (q1, .inl (cy 0, 6, .inl fh)), (q2, .inl (cy 0, 30, .inl fd)), (q4, .inl (cy 0, 30, .inl fs))], (w ++ wi3), v2, xW cy xtb a S583] : List va_W)) (rs := ([[(z0, .inr (12, [.ref b, .ref q1, .ref q2, .ref q3, .ref q4, .ref q5, .ref q6, .ref q7])), (q1, .inl (cy 0, 6, .inl fh)), (q2, .inl (cy 0, 30, .inl fd)), (q4, .inl (cy 0, 30, .inl fs))], (w ++ wi3), xW cy xtb a S583] : List va_W)) (x := v2) 2 rfl rfl hD
          refine lk_iter hx hb hml hown hts hK hN hZ hS hA hl.1 (Nat.le_of_ble_eq_true (rfl)) (rest := []) (⟨xw_mem 1089 (by decide +kernel) rfl, xw_mem 46 (by decide +kernel) rfl, xw_mem 1086 (by decide +kernel) rfl, by decide +kernel⟩ : xML RL 146 yJx4a65c_iterator_32c93 cJx4a65c_iterator_32c93 1 (some (.object "java/util/Iterator")) 0) hv2 hPc hDc ⟨by omega, by omega⟩ ⟨by omega, by omega⟩ dL_law_626 (fun it2 vi H locs hit hPn hDn hS => ?_)
          have hP := blk_P2 (bs := ([[(z0, .inr (12, [.ref b, .ref q1, .ref q2, .ref q3, .ref q4, .ref q5, .ref q6, .ref q7])), (q1, .inl (cy 0, 6, .inl fh)), (q2, .inl (cy 0, 30, .inl fd)), (q4, .inl (cy 0, 30, .inl fs))], (w ++ wi3), (v2 ++ vi), xW cy xtb a S583] : List va_W)) (rs := ([[(z0, .inr (12, [.ref b, .ref q1, .ref q2, .ref q3, .ref q4, .ref q5, .ref q6, .ref q7])), (q1, .inl (cy 0, 6, .inl fh)), (q2, .inl (cy 0, 30, .inl fd)), (q4, .inl (cy 0, 30, .inl fs))], (w ++ wi3), xW cy xtb a S583] : List va_W)) (x := (v2 ++ vi)) 2 rfl rfl hPn
          have hD := blk_D2 (bs := ([[(z0, .inr (12, [.ref b, .ref q1, .ref q2, .ref q3, .ref q4, .ref q5, .ref q6, .ref q7])), (q1, .inl (cy 0, 6, .inl fh)), (q2, .inl (cy 0, 30, .inl fd)), (q4, .inl (cy 0, 30, .inl fs))], (w ++ wi3), (v2 ++ vi), xW cy xtb a S583] : List va_W)) (rs := ([[(z0, .inr (12, [.ref b, .ref q1, .ref q2, .ref q3, .ref q4, .ref q5, .ref q6, .ref q7])), (q1, .inl (cy 0, 6, .inl fh)), (q2, .inl (cy 0, 30, .inl fd)), (q4, .inl (cy 0, 30, .inl fs))], (w ++ wi3), xW cy xtb a S583] : List va_W)) (x := (v2 ++ vi)) 2 rfl rfl hDn
          refine lv_astore (lv' := [(16, .ref it2), (15, .int (ki 0)), (14, .int (ki (c9 : Int))), (0, .ref b), (1, .ref (a 0)), (2, .ref z0), (3, .ref y), (7, .int (ki x)), (8, .int (ki nn)), (9, .long (kj (m0 : Int))), (11, .int (ki jj)), (12, .int (ki t)), (13, .ref it)]) hx hb dL_law_629 hl (by decide) rfl (fun ls hl => ?_)
          refine RA_1 hx hb hml hown hts hK hN hZ hX hbl hbA hNs hEx hA hI hR hL hF ⟨by omega, by omega⟩ hm0 hjj hv2 (fun S2 vi t5 hB hi hit ht5 hq5 H locs ls hl hP hD hS => ?_) (bsL L xs c9).length 0 (by omega) _ _ 0 hB hi hit (Or.inl rfl) ⟨fun h => absurd h (by decide), fun h => by
            rcases h with h | ⟨t7, h7, _⟩
            · exact absurd h hno
            · exact absurd h7 (Nat.not_lt_zero t7)⟩ _ _ ls (lv_sub hl [3, 4, 5, 6, 7, 8, 9, 10, 11, 12, 2, 1, 0] rfl) hP hD hS
          rcases ht5 with h5 | h5
          · subst h5
            refine lv_iload hx hb dL_law_688 (lv_at hl 8 rfl) ?_
            refine lv_iload hx hb dL_law_690 (lv_at hl 11 rfl) ?_
            refine lv_iand hx hb dL_law_692 ?_
            rw [show ki t &&& ki 0 = ki 0 from by rcases ht9 with rfl | rfl <;> rfl]
            refine lv_istore (lv' := [(12, .int (ki 0)), (0, .ref b), (1, .ref (a 0)), (2, .ref z0), (3, .ref y), (7, .int (ki x)), (8, .int (ki nn)), (9, .long (kj (m0 : Int))), (11, .int (ki jj)), (13, .ref it), (14, .int (ki (c9 : Int))), (15, .int (ki 0))]) hx hb dL_law_693 hl (by decide) rfl (fun ls hl => ?_)
            refine lv_goto (tgt := 554) hx hb dL_law_695 (by decide) ?_
            have hP := drp_P (bs := ([[(z0, .inr (12, [.ref b, .ref q1, .ref q2, .ref q3, .ref q4, .ref q5, .ref q6, .ref q7])), (q1, .inl (cy 0, 6, .inl fh)), (q2, .inl (cy 0, 30, .inl fd)), (q4, .inl (cy 0, 30, .inl fs))], (w ++ wi3), (v2 ++ vi), xW cy xtb a S2] : List va_W)) (rs := ([[(z0, .inr (12, [.ref b, .ref q1, .ref q2, .ref q3, .ref q4, .ref q5, .ref q6, .ref q7])), (q1, .inl (cy 0, 6, .inl fh)), (q2, .inl (cy 0, 30, .inl fd)), (q4, .inl (cy 0, 30, .inl fs))], (w ++ wi3), xW cy xtb a S2] : List va_W)) (x := (v2 ++ vi)) 2 rfl rfl hP
            have hD := drp_D (bs := ([[(z0, .inr (12, [.ref b, .ref q1, .ref q2, .ref q3, .ref q4, .ref q5, .ref q6, .ref q7])), (q1, .inl (cy 0, 6, .inl fh)), (q2, .inl (cy 0, 30, .inl fd)), (q4, .inl (cy 0, 30, .inl fs))], (w ++ wi3), (v2 ++ vi), xW cy xtb a S2] : List va_W)) (rs := ([[(z0, .inr (12, [.ref b, .ref q1, .ref q2, .ref q3, .ref q4, .ref q5, .ref q6, .ref q7])), (q1, .inl (cy 0, 6, .inl fh)), (q2, .inl (cy 0, 30, .inl fd)), (q4, .inl (cy 0, 30, .inl fs))], (w ++ wi3), xW cy xtb a S2] : List va_W)) (x := (v2 ++ vi)) 2 rfl rfl hD
            exact ih (i + 1) (by omega) _ _ 0 _ _ (by omega) (by omega) hB hi hio (Or.inl rfl) (by rw [chkP_s hc0]; exact ⟨fun h => absurd h (by decide), fun h => absurd (hq5.mpr (tkP_e.mpr (h.2 hx4))) (by decide)⟩) _ _ ls (lv_sub hl [1, 2, 3, 4, 5, 6, 7, 8, 0, 9] rfl) hP hD hS
          · subst h5
            refine lv_iload hx hb dL_law_688 (lv_at hl 8 rfl) ?_
            refine lv_iload hx hb dL_law_690 (lv_at hl 11 rfl) ?_
            refine lv_iand hx hb dL_law_692 ?_
            rw [show ki t &&& ki 1 = ki t from by rcases ht9 with rfl | rfl <;> rfl]
            refine lv_istore (lv' := [(12, .int (ki t)), (0, .ref b), (1, .ref (a 0)), (2, .ref z0), (3, .ref y), (7, .int (ki x)), (8, .int (ki nn)), (9, .long (kj (m0 : Int))), (11, .int (ki jj)), (13, .ref it), (14, .int (ki (c9 : Int))), (15, .int (ki 1))]) hx hb dL_law_693 hl (by decide) rfl (fun ls hl => ?_)
            refine lv_goto (tgt := 554) hx hb dL_law_695 (by decide) ?_
            have hP := drp_P (bs := ([[(z0, .inr (12, [.ref b, .ref q1, .ref q2, .ref q3, .ref q4, .ref q5, .ref q6, .ref q7])), (q1, .inl (cy 0, 6, .inl fh)), (q2, .inl (cy 0, 30, .inl fd)), (q4, .inl (cy 0, 30, .inl fs))], (w ++ wi3), (v2 ++ vi), xW cy xtb a S2] : List va_W)) (rs := ([[(z0, .inr (12, [.ref b, .ref q1, .ref q2, .ref q3, .ref q4, .ref q5, .ref q6, .ref q7])), (q1, .inl (cy 0, 6, .inl fh)), (q2, .inl (cy 0, 30, .inl fd)), (q4, .inl (cy 0, 30, .inl fs))], (w ++ wi3), xW cy xtb a S2] : List va_W)) (x := (v2 ++ vi)) 2 rfl rfl hP
            have hD := drp_D (bs := ([[(z0, .inr (12, [.ref b, .ref q1, .ref q2, .ref q3, .ref q4, .ref q5, .ref q6, .ref q7])), (q1, .inl (cy 0, 6, .inl fh)), (q2, .inl (cy 0, 30, .inl fd)), (q4, .inl (cy 0, 30, .inl fs))], (w ++ wi3), (v2 ++ vi), xW cy xtb a S2] : List va_W)) (rs := ([[(z0, .inr (12, [.ref b, .ref q1, .ref q2, .ref q3, .ref q4, .ref q5, .ref q6, .ref q7])), (q1, .inl (cy 0, 6, .inl fh)), (q2, .inl (cy 0, 30, .inl fd)), (q4, .inl (cy 0, 30, .inl fs))], (w ++ wi3), xW cy xtb a S2] : List va_W)) (x := (v2 ++ vi)) 2 rfl rfl hD
            exact ih (i + 1) (by omega) _ _ t _ _ (by omega) (by omega) hB hi hio ht9 (by rw [chkP_s hc0]; exact ⟨fun h => ⟨hq9.mp h, fun _ => tkP_e.mp (hq5.mp rfl)⟩, fun h => hq9.mpr h.1⟩) _ _ ls (lv_sub hl [1, 2, 3, 4, 5, 6, 7, 8, 0, 9] rfl) hP hD hS
    · refine lv_goto (tgt := 554) hx hb dL_law_591 (by decide) ?_
      exact ih (i + 1) (by omega) _ _ t _ _ (by omega) (by omega) hB hi hio ht9 (by rw [chkP_s hc0]; exact ⟨fun h => ⟨hq9.mp h, fun h7 => absurd h7 (by omega)⟩, fun h => hq9.mpr h.1⟩) _ _ ls (lv_sub hl [1, 2, 3, 4, 5, 6, 7, 8, 9, 10] rfl) hP hD hS
set_option maxHeartbeats 4000000 in
set_option maxRecDepth 20000 in
theorem RA_3 (hx : p.tables.exec = Jvm.exec) (hb : c.code = cL_law) (hml : c.maxLocals = 21) (hown : s.vm.findClass RL = some m.cls) (hts : ∀ w ∈ xTB, w.before args s = true) (hK : va_K D vwCl (xtyL cy) s) (hN : jN mi s) (hZ : jZ zE zc ad A s s.heap) (hX : va_X b L xs s s.heap) (hbl : b < s.heap.size) (hbA : ¬ A b) (hNs : nS s) (hEx : xEx z A s s.heap) (hA : ∀ q, s.heap.size ≤ q → A q) (hI : xI xtb a) (hR : 100 ≤ R.frames ∧ 4000 ≤ R.locals ∧ 600000 ≤ R.cells ∧ 7302250 ≤ R.slots) (hL : L ≤ 1000) (hF : nF s) (hk0 : k0 + 5611 ≤ R.cells ∧ n0 + 378634 ≤ R.slots) (hm0 : m0 < 1073741824) (hxb : 0 ≤ x ∧ x ≤ 99) (hE : bE L xs η) (hh : ∀ j : Nat, j < 6 → fh j = ki (hgS L xs j)) (hw9 : isL cy zE ad y (csI L xs 30) w) (hcov : covP L xs η x m0 (-1) (csI L xs 30)) (hmin : ∀ j : Nat, j < 30 → m0.testBit j = true → ¬ covP L xs η x m0 j (csI L xs 30)) (kk : ∀ (S1 : xSt) (k n : Nat) (hk : k ≤ k0 + 181 * 31) (hn : n ≤ n0 + 12214 * 31) (hB : BX η gn S1) (hi : iX η S1) (H : Heap) (locs : List Loc) (ls : Array Slot), lv_has ls 21 [(0, .ref b), (1, .ref (a 0)), (2, .ref z0), (3, .ref y), (7, .int (ki x)), (8, .int (ki nn)), (9, .long (kj (m0 : Int)))] → va_P D vwCl (List.flatten [[(z0, .inr (12, [.ref b, .ref q1, .ref q2, .ref q3, .ref q4, .ref q5, .ref q6, .ref q7])), (q1, .inl (cy 0, 6, .inl fh)), (q2, .inl (cy 0, 30, .inl fd)), (q4, .inl (cy 0, 30, .inl fs))], w, xW cy xtb a S1]) H → va_D A (List.flatten [[(z0, .inr (12, [.ref b, .ref q1, .ref q2, .ref q3, .ref q4, .ref q5, .ref q6, .ref q7])), (q1, .inl (cy 0, 6, .inl fh)), (q2, .inl (cy 0, 30, .inl fd)), (q4, .inl (cy 0, 30, .inl fs))], w, xW cy xtb a S1]) → va_S A s.heap H locs → W p l e R s m args below meth c H locs k n Q (F0 m 721 ls [])) : ∀ (d9 i : Nat), i + d9 = 31 → ∀ (S1 : xSt) (k n : Nat) (hk : k ≤ k0 + 181 * i) (hn : n ≤ n0 + 12214 * i) (hB : BX η gn S1) (hi : iX η S1) (H : Heap) (locs : List Loc) (ls : Array Slot), lv_has ls 21 [(0, .ref b), (1, .ref (a 0)), (2, .ref z0), (3, .ref y), (7, .int (ki x)), (8, .int (ki nn)), (9, .long (kj (m0 : Int))), (11, .int (ki ((i : Int) - 1)))] → va_P D vwCl (List.flatten [[(z0, .inr (12, [.ref b, .ref q1, .ref q2, .ref q3, .ref q4, .ref q5, .ref q6, .ref q7])), (q1, .inl (cy 0, 6, .inl fh)), (q2, .inl (cy 0, 30, .inl fd)), (q4, .inl (cy 0, 30, .inl fs))], w, xW cy xtb a S1]) H → va_D A (List.flatten [[(z0, .inr (12, [.ref b, .ref q1, .ref q2, .ref q3, .ref q4, .ref q5, .ref q6, .ref q7])), (q1, .inl (cy 0, 6, .inl fh)), (q2, .inl (cy 0, 30, .inl fd)), (q4, .inl (cy 0, 30, .inl fs))], w, xW cy xtb a S1]) → va_S A s.heap H locs → W p l e R s m args below meth c H locs k n Q (F0 m 518 ls []) := by
  intro d9
  induction d9 with
  | zero =>
    intro i hix S1 k n hk hn hB hi H locs ls hl hP hD hS
    have hix : 31 = i := by omega
    subst hix
    refine lv_iload hx hb dL_law_518 (lv_at hl 7 rfl) ?_
    refine lv_bipush (v := ki 30) hx hb dL_law_520 rfl ?_
    refine kv_icmp_ge_t (tgt := 721) hx hb (by omega) (by omega) (by omega) (by omega) (by omega) dL_law_522 (by decide) ?_
    exact kk S1 k n hk hn hB hi H _ ls (lv_sub hl [0, 1, 2, 3, 4, 5, 6] rfl) hP hD hS
  | succ d9 ih =>
    intro i hix S1 k n hk hn hB hi H locs ls hl hP hD hS
    have hl30 := csI_len L xs 30
    cases i with
    | zero =>
      rw [show ((0 : Nat) : Int) - 1 = -1 from rfl] at hl
      refine lv_iload hx hb dL_law_518 (lv_at hl 7 rfl) ?_
      refine lv_bipush (v := ki 30) hx hb dL_law_520 rfl ?_
      refine kv_icmp_ge_f (tgt := 721) hx hb (by omega) (by omega) (by omega) (by omega) (by omega) dL_law_522 (by decide) ?_
      refine lv_iload hx hb dL_law_525 (lv_at hl 7 rfl) ?_
      refine kv_if_lt_t (tgt := 545) hx hb (by omega) (by omega) (by omega) dL_law_527 (by decide) ?_
      refine lv_iconst (v := ki 1) hx hb dL_law_545 rfl ?_
      refine lv_istore (lv' := [(12, .int (ki 1)), (0, .ref b), (1, .ref (a 0)), (2, .ref z0), (3, .ref y), (7, .int (ki x)), (8, .int (ki nn)), (9, .long (kj (m0 : Int))), (11, .int (ki (-1)))]) hx hb dL_law_546 hl (by decide) rfl (fun ls hl => ?_)
      refine lv_aload_n hx hb dL_law_548 rfl (lv_at hl 4 rfl) ?_
      have hPc := blk_P (bs := ([[(z0, .inr (12, [.ref b, .ref q1, .ref q2, .ref q3, .ref q4, .ref q5, .ref q6, .ref q7])), (q1, .inl (cy 0, 6, .inl fh)), (q2, .inl (cy 0, 30, .inl fd)), (q4, .inl (cy 0, 30, .inl fs))], w, xW cy xtb a S1] : List va_W)) (rs := ([[(z0, .inr (12, [.ref b, .ref q1, .ref q2, .ref q3, .ref q4, .ref q5, .ref q6, .ref q7])), (q1, .inl (cy 0, 6, .inl fh)), (q2, .inl (cy 0, 30, .inl fd)), (q4, .inl (cy 0, 30, .inl fs))], xW cy xtb a S1] : List va_W)) (x := w) 1 rfl rfl hP
      have hDc := blk_D (bs := ([[(z0, .inr (12, [.ref b, .ref q1, .ref q2, .ref q3, .ref q4, .ref q5, .ref q6, .ref q7])), (q1, .inl (cy 0, 6, .inl fh)), (q2, .inl (cy 0, 30, .inl fd)), (q4, .inl (cy 0, 30, .inl fs))], w, xW cy xtb a S1] : List va_W)) (rs := ([[(z0, .inr (12, [.ref b, .ref q1, .ref q2, .ref q3, .ref q4, .ref q5, .ref q6, .ref q7])), (q1, .inl (cy 0, 6, .inl fh)), (q2, .inl (cy 0, 30, .inl fd)), (q4, .inl (cy 0, 30, .inl fs))], xW cy xtb a S1] : List va_W)) (x := w) 1 rfl rfl hD
      refine lk_iter hx hb hml hown hts hK hN hZ hS hA hl.1 (Nat.le_of_ble_eq_true (rfl)) (rest := []) (⟨xw_mem 1089 (by decide +kernel) rfl, xw_mem 46 (by decide +kernel) rfl, xw_mem 1086 (by decide +kernel) rfl, by decide +kernel⟩ : xML RL 146 yJx4a65c_iterator_32c93 cJx4a65c_iterator_32c93 1 (some (.object "java/util/Iterator")) 0) hw9 hPc hDc ⟨by omega, by omega⟩ ⟨by omega, by omega⟩ dL_law_549 (fun it wi H locs hio hPn hDn hS => ?_)
      have hP := blk_P2 (bs := ([[(z0, .inr (12, [.ref b, .ref q1, .ref q2, .ref q3, .ref q4, .ref q5, .ref q6, .ref q7])), (q1, .inl (cy 0, 6, .inl fh)), (q2, .inl (cy 0, 30, .inl fd)), (q4, .inl (cy 0, 30, .inl fs))], (w ++ wi), xW cy xtb a S1] : List va_W)) (rs := ([[(z0, .inr (12, [.ref b, .ref q1, .ref q2, .ref q3, .ref q4, .ref q5, .ref q6, .ref q7])), (q1, .inl (cy 0, 6, .inl fh)), (q2, .inl (cy 0, 30, .inl fd)), (q4, .inl (cy 0, 30, .inl fs))], xW cy xtb a S1] : List va_W)) (x := (w ++ wi)) 1 rfl rfl hPn
      have hD := blk_D2 (bs := ([[(z0, .inr (12, [.ref b, .ref q1, .ref q2, .ref q3, .ref q4, .ref q5, .ref q6, .ref q7])), (q1, .inl (cy 0, 6, .inl fh)), (q2, .inl (cy 0, 30, .inl fd)), (q4, .inl (cy 0, 30, .inl fs))], (w ++ wi), xW cy xtb a S1] : List va_W)) (rs := ([[(z0, .inr (12, [.ref b, .ref q1, .ref q2, .ref q3, .ref q4, .ref q5, .ref q6, .ref q7])), (q1, .inl (cy 0, 6, .inl fh)), (q2, .inl (cy 0, 30, .inl fd)), (q4, .inl (cy 0, 30, .inl fs))], xW cy xtb a S1] : List va_W)) (x := (w ++ wi)) 1 rfl rfl hDn
      refine lv_astore (lv' := [(13, .ref it), (12, .int (ki 1)), (0, .ref b), (1, .ref (a 0)), (2, .ref z0), (3, .ref y), (7, .int (ki x)), (8, .int (ki nn)), (9, .long (kj (m0 : Int))), (11, .int (ki (-1)))]) hx hb dL_law_552 hl (by decide) rfl (fun ls hl => ?_)
      refine RA_2 hx hb hml hown hts hK hN hZ hX hbl hbA hNs hEx hA hI hR hL hF (k0 := k + 1) (n0 := n + 4) ⟨by omega, by omega⟩ hm0 (by omega) hxb hE hh hw9 (fun S2 wi t k n hk2 hn2 hB hi hio ht9 hq9 H locs ls hl hP hD hS => ?_) (csI L xs 30).length 0 (by omega) _ _ 1 _ _ (by omega) (by omega) hB hi hio (Or.inr rfl) ⟨fun _ t7 h7 => absurd h7 (Nat.not_lt_zero t7), fun _ => rfl⟩ _ _ ls (lv_sub hl [2, 3, 4, 5, 6, 7, 8, 9, 1, 0] rfl) hP hD hS
      have hl30 := csI_len L xs 30
      have ht1 : t = 1 := hq9.mpr (chkP_e.mpr hcov)
      subst ht1
      refine lv_iload hx hb dL_law_698 (lv_at hl 8 rfl) ?_
      refine lv_iload hx hb dL_law_700 (lv_at hl 7 rfl) ?_
      refine kv_if_ge_f (tgt := 709) hx hb (by omega) (by omega) (by omega) dL_law_702 (by decide) ?_
      refine lv_iconst (v := ki 1) hx hb dL_law_705 rfl ?_
      refine lv_goto (tgt := 710) hx hb dL_law_706 (by decide) ?_
      refine kv_icmp_eq_t (tgt := 715) hx hb (by omega) (by omega) (by omega) (by omega) (by omega) dL_law_710 (by decide) ?_
      refine lv_iinc (v := ki (((0 + 1 : Nat) : Int) - 1)) (lv' := [(11, .int (ki (((0 + 1 : Nat) : Int) - 1))), (0, .ref b), (1, .ref (a 0)), (2, .ref z0), (3, .ref y), (7, .int (ki x)), (8, .int (ki nn)), (9, .long (kj (m0 : Int))), (12, .int (ki 1))]) hx hb dL_law_715 hl (k := 7) rfl ((ki_add _ _).trans (congrArg ki (by omega))) (by decide) rfl (fun ls hl => ?_)
      refine lv_goto (tgt := 518) hx hb dL_law_718 (by decide) ?_
      have hP := blk_hP (bs := ([[(z0, .inr (12, [.ref b, .ref q1, .ref q2, .ref q3, .ref q4, .ref q5, .ref q6, .ref q7])), (q1, .inl (cy 0, 6, .inl fh)), (q2, .inl (cy 0, 30, .inl fd)), (q4, .inl (cy 0, 30, .inl fs))], (w ++ wi), xW cy xtb a S2] : List va_W)) (rs := ([[(z0, .inr (12, [.ref b, .ref q1, .ref q2, .ref q3, .ref q4, .ref q5, .ref q6, .ref q7])), (q1, .inl (cy 0, 6, .inl fh)), (q2, .inl (cy 0, 30, .inl fd)), (q4, .inl (cy 0, 30, .inl fs))], xW cy xtb a S2] : List va_W)) (bs2 := ([[(z0, .inr (12, [.ref b, .ref q1, .ref q2, .ref q3, .ref q4, .ref q5, .ref q6, .ref q7])), (q1, .inl (cy 0, 6, .inl fh)), (q2, .inl (cy 0, 30, .inl fd)), (q4, .inl (cy 0, 30, .inl fs))], w, xW cy xtb a S2] : List va_W)) (x := w) (t := wi) 1 rfl rfl rfl rfl hP
      have hD := blk_hD (bs := ([[(z0, .inr (12, [.ref b, .ref q1, .ref q2, .ref q3, .ref q4, .ref q5, .ref q6, .ref q7])), (q1, .inl (cy 0, 6, .inl fh)), (q2, .inl (cy 0, 30, .inl fd)), (q4, .inl (cy 0, 30, .inl fs))], (w ++ wi), xW cy xtb a S2] : List va_W)) (rs := ([[(z0, .inr (12, [.ref b, .ref q1, .ref q2, .ref q3, .ref q4, .ref q5, .ref q6, .ref q7])), (q1, .inl (cy 0, 6, .inl fh)), (q2, .inl (cy 0, 30, .inl fd)), (q4, .inl (cy 0, 30, .inl fs))], xW cy xtb a S2] : List va_W)) (bs2 := ([[(z0, .inr (12, [.ref b, .ref q1, .ref q2, .ref q3, .ref q4, .ref q5, .ref q6, .ref q7])), (q1, .inl (cy 0, 6, .inl fh)), (q2, .inl (cy 0, 30, .inl fd)), (q4, .inl (cy 0, 30, .inl fs))], w, xW cy xtb a S2] : List va_W)) (x := w) (t := wi) 1 rfl rfl rfl rfl hD
      exact ih (0 + 1) (by omega) _ _ _ (by omega) (by omega) hB hi _ _ ls (lv_sub hl [1, 2, 3, 4, 5, 6, 7, 0] rfl) hP hD hS
    | succ j9 =>
      rw [show ((j9 + 1 : Nat) : Int) - 1 = (j9 : Int) by omega] at hl
      by_cases hbit : m0.testBit j9 = true
      · refine lv_iload hx hb dL_law_518 (lv_at hl 7 rfl) ?_
        refine lv_bipush (v := ki 30) hx hb dL_law_520 rfl ?_
        refine kv_icmp_ge_f (tgt := 721) hx hb (by omega) (by omega) (by omega) (by omega) (by omega) dL_law_522 (by decide) ?_
        refine lv_iload hx hb dL_law_525 (lv_at hl 7 rfl) ?_
        refine kv_if_lt_f (tgt := 545) hx hb (by omega) (by omega) (by omega) dL_law_527 (by decide) ?_
        refine lv_lload hx hb dL_law_530 (lv_at hl 6 rfl) ?_
        refine lv_iload hx hb dL_law_532 (lv_at hl 7 rfl) ?_
        refine lv_lshr (v := kj ((m0 : Int) / ((2 ^ (j9 : Int).toNat : Nat) : Int))) hx hb dL_law_534 (kv_lshr (by omega) (by omega) (by omega) (by omega)) ?_
        refine lv_lconst (v := kj 1) hx hb dL_law_535 rfl ?_
        have hdv := dv_b (x := (m0 : Int)) (by omega) (j9)
        refine lv_land hx hb dL_law_536 ?_
        rw [show (kj ((m0 : Int) / ((2 ^ (j9 : Int).toNat : Nat) : Int)) &&& kj 1) = kj (((m0 : Int) / ((2 ^ (j9 : Int).toNat : Nat) : Int)) % 2) from kv_land1 (show 0 ≤ (m0 : Int) / ((2 ^ j9 : Nat) : Int) by omega) (show (m0 : Int) / ((2 ^ j9 : Nat) : Int) < 1000000000000 by omega), show ((m0 : Int) / ((2 ^ (j9 : Int).toNat : Nat) : Int)) % 2 = 1 from (bit_I (m0 := m0) (q := j9)).trans (if_pos hbit)]
        refine lv_lconst (v := kj 0) hx hb dL_law_537 rfl ?_
        refine W.lcmp hx hb dL_law_538 ?_
        rw [kJ_cmp (a := 1) (b := 0) (by omega) (by omega) (by omega) (by omega), show (if (0 : Int) < 1 then (1 : Int) else if (1 : Int) = 0 then 0 else -1) = 1 from by decide]
        refine kv_if_ne_t (tgt := 545) hx hb (by omega) (by omega) (by omega) dL_law_539 (by decide) ?_
        refine lv_iconst (v := ki 1) hx hb dL_law_545 rfl ?_
        refine lv_istore (lv' := [(12, .int (ki 1)), (0, .ref b), (1, .ref (a 0)), (2, .ref z0), (3, .ref y), (7, .int (ki x)), (8, .int (ki nn)), (9, .long (kj (m0 : Int))), (11, .int (ki (j9 : Int)))]) hx hb dL_law_546 hl (by decide) rfl (fun ls hl => ?_)
        refine lv_aload_n hx hb dL_law_548 rfl (lv_at hl 4 rfl) ?_
        have hPc := blk_P (bs := ([[(z0, .inr (12, [.ref b, .ref q1, .ref q2, .ref q3, .ref q4, .ref q5, .ref q6, .ref q7])), (q1, .inl (cy 0, 6, .inl fh)), (q2, .inl (cy 0, 30, .inl fd)), (q4, .inl (cy 0, 30, .inl fs))], w, xW cy xtb a S1] : List va_W)) (rs := ([[(z0, .inr (12, [.ref b, .ref q1, .ref q2, .ref q3, .ref q4, .ref q5, .ref q6, .ref q7])), (q1, .inl (cy 0, 6, .inl fh)), (q2, .inl (cy 0, 30, .inl fd)), (q4, .inl (cy 0, 30, .inl fs))], xW cy xtb a S1] : List va_W)) (x := w) 1 rfl rfl hP
        have hDc := blk_D (bs := ([[(z0, .inr (12, [.ref b, .ref q1, .ref q2, .ref q3, .ref q4, .ref q5, .ref q6, .ref q7])), (q1, .inl (cy 0, 6, .inl fh)), (q2, .inl (cy 0, 30, .inl fd)), (q4, .inl (cy 0, 30, .inl fs))], w, xW cy xtb a S1] : List va_W)) (rs := ([[(z0, .inr (12, [.ref b, .ref q1, .ref q2, .ref q3, .ref q4, .ref q5, .ref q6, .ref q7])), (q1, .inl (cy 0, 6, .inl fh)), (q2, .inl (cy 0, 30, .inl fd)), (q4, .inl (cy 0, 30, .inl fs))], xW cy xtb a S1] : List va_W)) (x := w) 1 rfl rfl hD
        refine lk_iter hx hb hml hown hts hK hN hZ hS hA hl.1 (Nat.le_of_ble_eq_true (rfl)) (rest := []) (⟨xw_mem 1089 (by decide +kernel) rfl, xw_mem 46 (by decide +kernel) rfl, xw_mem 1086 (by decide +kernel) rfl, by decide +kernel⟩ : xML RL 146 yJx4a65c_iterator_32c93 cJx4a65c_iterator_32c93 1 (some (.object "java/util/Iterator")) 0) hw9 hPc hDc ⟨by omega, by omega⟩ ⟨by omega, by omega⟩ dL_law_549 (fun it wi H locs hio hPn hDn hS => ?_)
        have hP := blk_P2 (bs := ([[(z0, .inr (12, [.ref b, .ref q1, .ref q2, .ref q3, .ref q4, .ref q5, .ref q6, .ref q7])), (q1, .inl (cy 0, 6, .inl fh)), (q2, .inl (cy 0, 30, .inl fd)), (q4, .inl (cy 0, 30, .inl fs))], (w ++ wi), xW cy xtb a S1] : List va_W)) (rs := ([[(z0, .inr (12, [.ref b, .ref q1, .ref q2, .ref q3, .ref q4, .ref q5, .ref q6, .ref q7])), (q1, .inl (cy 0, 6, .inl fh)), (q2, .inl (cy 0, 30, .inl fd)), (q4, .inl (cy 0, 30, .inl fs))], xW cy xtb a S1] : List va_W)) (x := (w ++ wi)) 1 rfl rfl hPn
        have hD := blk_D2 (bs := ([[(z0, .inr (12, [.ref b, .ref q1, .ref q2, .ref q3, .ref q4, .ref q5, .ref q6, .ref q7])), (q1, .inl (cy 0, 6, .inl fh)), (q2, .inl (cy 0, 30, .inl fd)), (q4, .inl (cy 0, 30, .inl fs))], (w ++ wi), xW cy xtb a S1] : List va_W)) (rs := ([[(z0, .inr (12, [.ref b, .ref q1, .ref q2, .ref q3, .ref q4, .ref q5, .ref q6, .ref q7])), (q1, .inl (cy 0, 6, .inl fh)), (q2, .inl (cy 0, 30, .inl fd)), (q4, .inl (cy 0, 30, .inl fs))], xW cy xtb a S1] : List va_W)) (x := (w ++ wi)) 1 rfl rfl hDn
        refine lv_astore (lv' := [(13, .ref it), (12, .int (ki 1)), (0, .ref b), (1, .ref (a 0)), (2, .ref z0), (3, .ref y), (7, .int (ki x)), (8, .int (ki nn)), (9, .long (kj (m0 : Int))), (11, .int (ki (j9 : Int)))]) hx hb dL_law_552 hl (by decide) rfl (fun ls hl => ?_)
        refine RA_2 hx hb hml hown hts hK hN hZ hX hbl hbA hNs hEx hA hI hR hL hF (k0 := k + 1) (n0 := n + 4) ⟨by omega, by omega⟩ hm0 (by omega) hxb hE hh hw9 (fun S2 wi t k n hk2 hn2 hB hi hio ht9 hq9 H locs ls hl hP hD hS => ?_) (csI L xs 30).length 0 (by omega) _ _ 1 _ _ (by omega) (by omega) hB hi hio (Or.inr rfl) ⟨fun _ t7 h7 => absurd h7 (Nat.not_lt_zero t7), fun _ => rfl⟩ _ _ ls (lv_sub hl [2, 3, 4, 5, 6, 7, 8, 9, 1, 0] rfl) hP hD hS
        have hl30 := csI_len L xs 30
        have ht1 : t = 0 := ht9.elim id (fun h => absurd (chkP_e.mp (hq9.mp h)) (hmin j9 (by omega) hbit))
        subst ht1
        refine lv_iload hx hb dL_law_698 (lv_at hl 8 rfl) ?_
        refine lv_iload hx hb dL_law_700 (lv_at hl 7 rfl) ?_
        refine kv_if_ge_t (tgt := 709) hx hb (by omega) (by omega) (by omega) dL_law_702 (by decide) ?_
        refine lv_iconst (v := ki 0) hx hb dL_law_709 rfl ?_
        refine kv_icmp_eq_t (tgt := 715) hx hb (by omega) (by omega) (by omega) (by omega) (by omega) dL_law_710 (by decide) ?_
        refine lv_iinc (v := ki (((j9 + 1 + 1 : Nat) : Int) - 1)) (lv' := [(11, .int (ki (((j9 + 1 + 1 : Nat) : Int) - 1))), (0, .ref b), (1, .ref (a 0)), (2, .ref z0), (3, .ref y), (7, .int (ki x)), (8, .int (ki nn)), (9, .long (kj (m0 : Int))), (12, .int (ki 0))]) hx hb dL_law_715 hl (k := 7) rfl ((ki_add _ _).trans (congrArg ki (by omega))) (by decide) rfl (fun ls hl => ?_)
        refine lv_goto (tgt := 518) hx hb dL_law_718 (by decide) ?_
        have hP := blk_hP (bs := ([[(z0, .inr (12, [.ref b, .ref q1, .ref q2, .ref q3, .ref q4, .ref q5, .ref q6, .ref q7])), (q1, .inl (cy 0, 6, .inl fh)), (q2, .inl (cy 0, 30, .inl fd)), (q4, .inl (cy 0, 30, .inl fs))], (w ++ wi), xW cy xtb a S2] : List va_W)) (rs := ([[(z0, .inr (12, [.ref b, .ref q1, .ref q2, .ref q3, .ref q4, .ref q5, .ref q6, .ref q7])), (q1, .inl (cy 0, 6, .inl fh)), (q2, .inl (cy 0, 30, .inl fd)), (q4, .inl (cy 0, 30, .inl fs))], xW cy xtb a S2] : List va_W)) (bs2 := ([[(z0, .inr (12, [.ref b, .ref q1, .ref q2, .ref q3, .ref q4, .ref q5, .ref q6, .ref q7])), (q1, .inl (cy 0, 6, .inl fh)), (q2, .inl (cy 0, 30, .inl fd)), (q4, .inl (cy 0, 30, .inl fs))], w, xW cy xtb a S2] : List va_W)) (x := w) (t := wi) 1 rfl rfl rfl rfl hP
        have hD := blk_hD (bs := ([[(z0, .inr (12, [.ref b, .ref q1, .ref q2, .ref q3, .ref q4, .ref q5, .ref q6, .ref q7])), (q1, .inl (cy 0, 6, .inl fh)), (q2, .inl (cy 0, 30, .inl fd)), (q4, .inl (cy 0, 30, .inl fs))], (w ++ wi), xW cy xtb a S2] : List va_W)) (rs := ([[(z0, .inr (12, [.ref b, .ref q1, .ref q2, .ref q3, .ref q4, .ref q5, .ref q6, .ref q7])), (q1, .inl (cy 0, 6, .inl fh)), (q2, .inl (cy 0, 30, .inl fd)), (q4, .inl (cy 0, 30, .inl fs))], xW cy xtb a S2] : List va_W)) (bs2 := ([[(z0, .inr (12, [.ref b, .ref q1, .ref q2, .ref q3, .ref q4, .ref q5, .ref q6, .ref q7])), (q1, .inl (cy 0, 6, .inl fh)), (q2, .inl (cy 0, 30, .inl fd)), (q4, .inl (cy 0, 30, .inl fs))], w, xW cy xtb a S2] : List va_W)) (x := w) (t := wi) 1 rfl rfl rfl rfl hD
        exact ih (j9 + 1 + 1) (by omega) _ _ _ (by omega) (by omega) hB hi _ _ ls (lv_sub hl [1, 2, 3, 4, 5, 6, 7, 0] rfl) hP hD hS
      · refine lv_iload hx hb dL_law_518 (lv_at hl 7 rfl) ?_
        refine lv_bipush (v := ki 30) hx hb dL_law_520 rfl ?_
        refine kv_icmp_ge_f (tgt := 721) hx hb (by omega) (by omega) (by omega) (by omega) (by omega) dL_law_522 (by decide) ?_
        refine lv_iload hx hb dL_law_525 (lv_at hl 7 rfl) ?_
        refine kv_if_lt_f (tgt := 545) hx hb (by omega) (by omega) (by omega) dL_law_527 (by decide) ?_
        refine lv_lload hx hb dL_law_530 (lv_at hl 6 rfl) ?_
        refine lv_iload hx hb dL_law_532 (lv_at hl 7 rfl) ?_
        refine lv_lshr (v := kj ((m0 : Int) / ((2 ^ (j9 : Int).toNat : Nat) : Int))) hx hb dL_law_534 (kv_lshr (by omega) (by omega) (by omega) (by omega)) ?_
        refine lv_lconst (v := kj 1) hx hb dL_law_535 rfl ?_
        have hdv := dv_b (x := (m0 : Int)) (by omega) (j9)
        refine lv_land hx hb dL_law_536 ?_
        rw [show (kj ((m0 : Int) / ((2 ^ (j9 : Int).toNat : Nat) : Int)) &&& kj 1) = kj (((m0 : Int) / ((2 ^ (j9 : Int).toNat : Nat) : Int)) % 2) from kv_land1 (show 0 ≤ (m0 : Int) / ((2 ^ j9 : Nat) : Int) by omega) (show (m0 : Int) / ((2 ^ j9 : Nat) : Int) < 1000000000000 by omega), show ((m0 : Int) / ((2 ^ (j9 : Int).toNat : Nat) : Int)) % 2 = 0 from (bit_I (m0 := m0) (q := j9)).trans (if_neg hbit)]
        refine lv_lconst (v := kj 0) hx hb dL_law_537 rfl ?_
        refine W.lcmp hx hb dL_law_538 ?_
        rw [kJ_cmp (a := 0) (b := 0) (by omega) (by omega) (by omega) (by omega), show (if (0 : Int) < 0 then (1 : Int) else if (0 : Int) = 0 then 0 else -1) = 0 from by decide]
        refine kv_if_ne_f (tgt := 545) hx hb (by omega) (by omega) (by omega) dL_law_539 (by decide) ?_
        refine lv_goto (tgt := 715) hx hb dL_law_542 (by decide) ?_
        refine lv_iinc (v := ki (((j9 + 1 + 1 : Nat) : Int) - 1)) (lv' := [(11, .int (ki (((j9 + 1 + 1 : Nat) : Int) - 1))), (0, .ref b), (1, .ref (a 0)), (2, .ref z0), (3, .ref y), (7, .int (ki x)), (8, .int (ki nn)), (9, .long (kj (m0 : Int)))]) hx hb dL_law_715 hl (k := 7) rfl ((ki_add _ _).trans (congrArg ki (by omega))) (by decide) rfl (fun ls hl => ?_)
        refine lv_goto (tgt := 518) hx hb dL_law_718 (by decide) ?_
        exact ih (j9 + 1 + 1) (by omega) S1 k n (Nat.le_trans hk (Nat.add_le_add_left (Nat.mul_le_mul_left _ (Nat.le_succ _)) _)) (Nat.le_trans hn (Nat.add_le_add_left (Nat.mul_le_mul_left _ (Nat.le_succ _)) _)) hB hi _ _ ls (lv_sub hl [1, 2, 3, 4, 5, 6, 7, 0] rfl) hP hD hS
set_option maxHeartbeats 4000000 in
set_option maxRecDepth 20000 in
theorem LW_rods (hx : p.tables.exec = Jvm.exec) (hb : c.code = cL_law) (hml : c.maxLocals = 21) (hown : s.vm.findClass RL = some m.cls) (hts : ∀ w ∈ xTB, w.before args s = true) (hK : va_K D vwCl (xtyL cy) s) (hN : jN mi s) (hZ : jZ zE zc ad A s s.heap) (hX : va_X b L xs s s.heap) (hbl : b < s.heap.size) (hbA : ¬ A b) (hNs : nS s) (hEx : xEx z A s s.heap) (hA : ∀ q, s.heap.size ≤ q → A q) (hI : xI xtb a) (hR : 100 ≤ R.frames ∧ 4000 ≤ R.locals ∧ 600000 ≤ R.cells ∧ 7302250 ≤ R.slots) (hL : L ≤ 1000) (hF : nF s) (hh : ∀ j : Nat, j < 6 → fh j = ki (hgS L xs j)) (hdm : ∀ j : Nat, j < 30 → fd j = ki (nuS L xs j 0)) (hsl : ∀ j : Nat, j < 30 → fs j = ki (nuS L xs j 3)) (hw9 : isL cy zE ad y (csI L xs 30) w) (hE : bE L xs η) (hB : BX η gn S) (hi : iX η S) (hkn2 : k + 5611 ≤ R.cells ∧ n + 378634 ≤ R.slots) (kk : ∀ (S : xSt) (k' n' : Nat) (hk9 : k' ≤ k + 5611) (hn9 : n' ≤ n + 378634) (hB : BX η gn S) (hi : iX η S) (H : Heap) (locs : List Loc) (ls : Array Slot), lv_has ls 21 [(0, .ref b), (1, .ref (a 0)), (2, .ref z0), (3, .ref y)] → va_P D vwCl (List.flatten [[(z0, .inr (12, [.ref b, .ref q1, .ref q2, .ref q3, .ref q4, .ref q5, .ref q6, .ref q7])), (q1, .inl (cy 0, 6, .inl fh)), (q2, .inl (cy 0, 30, .inl fd)), (q4, .inl (cy 0, 30, .inl fs))], w, xW cy xtb a S]) H → va_D A (List.flatten [[(z0, .inr (12, [.ref b, .ref q1, .ref q2, .ref q3, .ref q4, .ref q5, .ref q6, .ref q7])), (q1, .inl (cy 0, 6, .inl fh)), (q2, .inl (cy 0, 30, .inl fd)), (q4, .inl (cy 0, 30, .inl fs))], w, xW cy xtb a S]) → va_S A s.heap H locs → W p l e R s m args below meth c H locs k' n' Q (F0 m 721 ls [])) {H : Heap} {locs : List Loc} {ls : Array Slot} (hl : lv_has ls 21 [(0, .ref b), (1, .ref (a 0)), (2, .ref z0), (3, .ref y)]) (hP : va_P D vwCl (List.flatten [[(z0, .inr (12, [.ref b, .ref q1, .ref q2, .ref q3, .ref q4, .ref q5, .ref q6, .ref q7])), (q1, .inl (cy 0, 6, .inl fh)), (q2, .inl (cy 0, 30, .inl fd)), (q4, .inl (cy 0, 30, .inl fs))], w, xW cy xtb a S]) H) (hD : va_D A (List.flatten [[(z0, .inr (12, [.ref b, .ref q1, .ref q2, .ref q3, .ref q4, .ref q5, .ref q6, .ref q7])), (q1, .inl (cy 0, 6, .inl fh)), (q2, .inl (cy 0, 30, .inl fd)), (q4, .inl (cy 0, 30, .inl fs))], w, xW cy xtb a S])) (hS : va_S A s.heap H locs) : W p l e R s m args below meth c H locs k n Q (F0 m 432 ls []) := by
  have hwf := hB.1
  obtain ⟨x9, hx9⟩ : ∃ x9 : Int, 50 + ceS L xs 15 % 50 = x9 := ⟨_, rfl⟩
  refine lv_bipush (v := ki 50) hx hb dL_law_432 rfl ?_
  refine lv_aload_n hx hb dL_law_434 rfl (lv_at hl 0 rfl) ?_
  refine lv_bipush (v := ki 15) hx hb dL_law_435 rfl ?_
  refine lk_pure hx hb hml hown hts hX hbl hbA hS hA (⟨xw_mem 795 (by decide +kernel) rfl, xw_mem 29 (by decide +kernel) rfl, xw_mem 800 (by decide +kernel) rfl, by decide +kernel⟩ : xML RL 17 yL_cell cL_cell 2 (some .int) 2) (xw_mem 794 (by decide +kernel) rfl) (As := [.ref b, .int (ki 15)]) (rest := [.int (ki 50)]) (c_L_cell (i := 15) hL (by omega) (by omega) _) ⟨(by omega), (by omega)⟩ ⟨by omega, by omega⟩ rfl hl.1 rfl (Nat.le_of_ble_eq_true (rfl)) dL_law_437 (fun H locs hP9 hS => ?_)
  have hP := hP9 _ _ _ hP
  refine lv_bipush (v := ki 50) hx hb dL_law_440 rfl ?_
  have hc9 := ceS_b (L := L) (xs := xs) (i := 15) (by omega) (by omega)
  refine kv_rem (r := ceS L xs 15 % 50) hx hb (by omega) (by omega) (by omega) (by omega) rfl dL_law_442 ?_
  refine kv_add (r := x9) hx hb hx9 dL_law_443 ?_
  refine lv_istore (lv' := [(7, .int (ki x9)), (0, .ref b), (1, .ref (a 0)), (2, .ref z0), (3, .ref y)]) hx hb dL_law_444 hl (by decide) rfl (fun ls hl => ?_)
  obtain ⟨nn, b9, hn0, hn1, hb0, hb1, hres, han⟩ := t_rods (S := S) hB (x := x9) (by omega) (by omega)
  refine lv_aload_n hx hb dL_law_446 rfl (lv_at hl 2 rfl) ?_
  refine lv_iload hx hb dL_law_447 (lv_at hl 0 rfl) ?_
  obtain ⟨⟨S449, v449⟩, hf449, hq449⟩ := han
  dsimp only at hq449
  obtain ⟨hv9, hf9, hl9⟩ := hq449
  subst hv9
  have hB := BX_q hB hf9 hl9
  have hi := iX_q hi hf9
  have hPc := blk_P (bs := ([[(z0, .inr (12, [.ref b, .ref q1, .ref q2, .ref q3, .ref q4, .ref q5, .ref q6, .ref q7])), (q1, .inl (cy 0, 6, .inl fh)), (q2, .inl (cy 0, 30, .inl fd)), (q4, .inl (cy 0, 30, .inl fs))], w, xW cy xtb a S] : List va_W)) (rs := ([[(z0, .inr (12, [.ref b, .ref q1, .ref q2, .ref q3, .ref q4, .ref q5, .ref q6, .ref q7])), (q1, .inl (cy 0, 6, .inl fh)), (q2, .inl (cy 0, 30, .inl fd)), (q4, .inl (cy 0, 30, .inl fs))], w] : List va_W)) (x := xW cy xtb a S) 2 rfl rfl hP
  have hDc := blk_D (bs := ([[(z0, .inr (12, [.ref b, .ref q1, .ref q2, .ref q3, .ref q4, .ref q5, .ref q6, .ref q7])), (q1, .inl (cy 0, 6, .inl fh)), (q2, .inl (cy 0, 30, .inl fd)), (q4, .inl (cy 0, 30, .inl fs))], w, xW cy xtb a S] : List va_W)) (rs := ([[(z0, .inr (12, [.ref b, .ref q1, .ref q2, .ref q3, .ref q4, .ref q5, .ref q6, .ref q7])), (q1, .inl (cy 0, 6, .inl fh)), (q2, .inl (cy 0, 30, .inl fd)), (q4, .inl (cy 0, 30, .inl fs))], w] : List va_W)) (x := xW cy xtb a S) 2 rfl rfl hD
  refine lw_vi hx hb hml hown hts (K_sub hK) hEx hI hPc hDc hS hA (⟨xw_mem 557 (by decide +kernel) rfl, xw_mem 30 (by decide +kernel) rfl, xw_mem 554 (by decide +kernel) rfl, by decide +kernel⟩ : xML RL 133 yX11_rods cX11_rods 2 (some .int) 1) (xw_mem 555 (by decide +kernel) rfl) (xw_mem 556 (by decide +kernel) rfl) (he := rfl) (by decide) rfl [.int (ki x9)] (rest := []) (c_X11_rods hI hf449 _) ⟨by omega, by omega⟩ ⟨by omega, by omega⟩ rfl hl.1 rfl (Nat.le_of_ble_eq_true (rfl)) dL_law_449 (fun H locs hPn hS => ?_)
  have hDn := xD_st (S' := S449) hDc
  have hP := blk_P2 (bs := ([[(z0, .inr (12, [.ref b, .ref q1, .ref q2, .ref q3, .ref q4, .ref q5, .ref q6, .ref q7])), (q1, .inl (cy 0, 6, .inl fh)), (q2, .inl (cy 0, 30, .inl fd)), (q4, .inl (cy 0, 30, .inl fs))], w, xW cy xtb a S449] : List va_W)) (rs := ([[(z0, .inr (12, [.ref b, .ref q1, .ref q2, .ref q3, .ref q4, .ref q5, .ref q6, .ref q7])), (q1, .inl (cy 0, 6, .inl fh)), (q2, .inl (cy 0, 30, .inl fd)), (q4, .inl (cy 0, 30, .inl fs))], w] : List va_W)) (x := xW cy xtb a S449) 2 rfl rfl hPn
  have hD := blk_D2 (bs := ([[(z0, .inr (12, [.ref b, .ref q1, .ref q2, .ref q3, .ref q4, .ref q5, .ref q6, .ref q7])), (q1, .inl (cy 0, 6, .inl fh)), (q2, .inl (cy 0, 30, .inl fd)), (q4, .inl (cy 0, 30, .inl fs))], w, xW cy xtb a S449] : List va_W)) (rs := ([[(z0, .inr (12, [.ref b, .ref q1, .ref q2, .ref q3, .ref q4, .ref q5, .ref q6, .ref q7])), (q1, .inl (cy 0, 6, .inl fh)), (q2, .inl (cy 0, 30, .inl fd)), (q4, .inl (cy 0, 30, .inl fs))], w] : List va_W)) (x := xW cy xtb a S449) 2 rfl rfl hDn
  refine lv_istore (lv' := [(8, .int (ki nn)), (7, .int (ki x9)), (0, .ref b), (1, .ref (a 0)), (2, .ref z0), (3, .ref y)]) hx hb dL_law_452 hl (by decide) rfl (fun ls hl => ?_)
  refine lv_aload_n hx hb dL_law_454 rfl (lv_at hl 3 rfl) ?_
  refine lv_iload hx hb dL_law_455 (lv_at hl 1 rfl) ?_
  obtain ⟨⟨S457, v457⟩, hf457, hq457⟩ := t_rodsAt (S := S449) hB (x := x9) (by omega) (by omega) hres
  dsimp only at hq457
  obtain ⟨hv9, hf9, hl9⟩ := hq457
  subst hv9
  have hB := BX_q hB hf9 hl9
  have hi := iX_q hi hf9
  have hPc := blk_P (bs := ([[(z0, .inr (12, [.ref b, .ref q1, .ref q2, .ref q3, .ref q4, .ref q5, .ref q6, .ref q7])), (q1, .inl (cy 0, 6, .inl fh)), (q2, .inl (cy 0, 30, .inl fd)), (q4, .inl (cy 0, 30, .inl fs))], w, xW cy xtb a S449] : List va_W)) (rs := ([[(z0, .inr (12, [.ref b, .ref q1, .ref q2, .ref q3, .ref q4, .ref q5, .ref q6, .ref q7])), (q1, .inl (cy 0, 6, .inl fh)), (q2, .inl (cy 0, 30, .inl fd)), (q4, .inl (cy 0, 30, .inl fs))], w] : List va_W)) (x := xW cy xtb a S449) 2 rfl rfl hP
  have hDc := blk_D (bs := ([[(z0, .inr (12, [.ref b, .ref q1, .ref q2, .ref q3, .ref q4, .ref q5, .ref q6, .ref q7])), (q1, .inl (cy 0, 6, .inl fh)), (q2, .inl (cy 0, 30, .inl fd)), (q4, .inl (cy 0, 30, .inl fs))], w, xW cy xtb a S449] : List va_W)) (rs := ([[(z0, .inr (12, [.ref b, .ref q1, .ref q2, .ref q3, .ref q4, .ref q5, .ref q6, .ref q7])), (q1, .inl (cy 0, 6, .inl fh)), (q2, .inl (cy 0, 30, .inl fd)), (q4, .inl (cy 0, 30, .inl fs))], w] : List va_W)) (x := xW cy xtb a S449) 2 rfl rfl hD
  refine lw_vl hx hb hml hown hts (K_sub hK) hEx hI hPc hDc hS hA (⟨xw_mem 583 (by decide +kernel) rfl, xw_mem 30 (by decide +kernel) rfl, xw_mem 580 (by decide +kernel) rfl, by decide +kernel⟩ : xML RL 136 yX11_rodsAt cX11_rodsAt 2 (some .long) 1) (xw_mem 581 (by decide +kernel) rfl) (xw_mem 582 (by decide +kernel) rfl) (he := rfl) (by decide) rfl [.int (ki x9)] (rest := []) (c_X11_rodsAt hI hf457 _) ⟨by omega, by omega⟩ ⟨by omega, by omega⟩ rfl hl.1 rfl (Nat.le_of_ble_eq_true (rfl)) dL_law_457 (fun H locs hPn hS => ?_)
  have hDn := xD_st (S' := S457) hDc
  have hP := blk_P2 (bs := ([[(z0, .inr (12, [.ref b, .ref q1, .ref q2, .ref q3, .ref q4, .ref q5, .ref q6, .ref q7])), (q1, .inl (cy 0, 6, .inl fh)), (q2, .inl (cy 0, 30, .inl fd)), (q4, .inl (cy 0, 30, .inl fs))], w, xW cy xtb a S457] : List va_W)) (rs := ([[(z0, .inr (12, [.ref b, .ref q1, .ref q2, .ref q3, .ref q4, .ref q5, .ref q6, .ref q7])), (q1, .inl (cy 0, 6, .inl fh)), (q2, .inl (cy 0, 30, .inl fd)), (q4, .inl (cy 0, 30, .inl fs))], w] : List va_W)) (x := xW cy xtb a S457) 2 rfl rfl hPn
  have hD := blk_D2 (bs := ([[(z0, .inr (12, [.ref b, .ref q1, .ref q2, .ref q3, .ref q4, .ref q5, .ref q6, .ref q7])), (q1, .inl (cy 0, 6, .inl fh)), (q2, .inl (cy 0, 30, .inl fd)), (q4, .inl (cy 0, 30, .inl fs))], w, xW cy xtb a S457] : List va_W)) (rs := ([[(z0, .inr (12, [.ref b, .ref q1, .ref q2, .ref q3, .ref q4, .ref q5, .ref q6, .ref q7])), (q1, .inl (cy 0, 6, .inl fh)), (q2, .inl (cy 0, 30, .inl fd)), (q4, .inl (cy 0, 30, .inl fs))], w] : List va_W)) (x := xW cy xtb a S457) 2 rfl rfl hDn
  rcases rod_cov hE hwf hres with ⟨e1, e2⟩ | ⟨m0, N, hN4, e1, e2, hm0, hcnt, hcov, hmin⟩
  · subst e1
    subst e2
    rw [if_pos rfl]
    refine lv_lstore (lv' := [(9, .long (kj (-2))), (8, .int (ki (-2))), (7, .int (ki x9)), (0, .ref b), (1, .ref (a 0)), (2, .ref z0), (3, .ref y)]) hx hb dL_law_460 hl (by decide) rfl (fun ls hl => ?_)
    refine lv_iload hx hb dL_law_462 (lv_at hl 1 rfl) ?_
    refine kv_if_ge_f (tgt := 471) hx hb (by omega) (by omega) (by omega) dL_law_464 (by decide) ?_
    refine lv_iconst (v := ki 1) hx hb dL_law_467 rfl ?_
    refine lv_goto (tgt := 472) hx hb dL_law_468 (by decide) ?_
    refine lv_lload hx hb dL_law_472 (lv_at hl 0 rfl) ?_
    refine lv_lconst (v := kj 0) hx hb dL_law_474 rfl ?_
    refine W.lcmp hx hb dL_law_475 ?_
    rw [kJ_cmp (a := (-2)) (b := 0) (by omega) (by omega) (by omega) (by omega), show (if (0 : Int) < (-2) then (1 : Int) else if ((-2) : Int) = 0 then 0 else -1) = (-1) from by decide]
    refine kv_if_ge_f (tgt := 483) hx hb (by omega) (by omega) (by omega) dL_law_476 (by decide) ?_
    refine lv_iconst (v := ki 1) hx hb dL_law_479 rfl ?_
    refine lv_goto (tgt := 484) hx hb dL_law_480 (by decide) ?_
    refine kv_icmp_ne_f (tgt := 508) hx hb (by omega) (by omega) (by omega) (by omega) (by omega) dL_law_484 (by decide) ?_
    refine lv_iload hx hb dL_law_487 (lv_at hl 1 rfl) ?_
    refine lv_iconst (v := ki 4) hx hb dL_law_489 rfl ?_
    refine kv_icmp_gt_f (tgt := 508) hx hb (by omega) (by omega) (by omega) (by omega) (by omega) dL_law_490 (by decide) ?_
    refine lv_iload hx hb dL_law_493 (lv_at hl 1 rfl) ?_
    refine kv_if_lt_t (tgt := 510) hx hb (by omega) (by omega) (by omega) dL_law_495 (by decide) ?_
    refine lv_iload hx hb dL_law_510 (lv_at hl 1 rfl) ?_
    refine kv_if_lt_t (tgt := 721) hx hb (by omega) (by omega) (by omega) dL_law_512 (by decide) ?_
    exact kk S457 _ _ (by omega) (by omega) hB hi H _ ls (lv_sub hl [3, 4, 5, 6] rfl) hP hD hS
  · subst e1
    subst e2
    rw [if_neg (by omega)]
    refine lv_lstore (lv' := [(9, .long (kj (m0 : Int))), (8, .int (ki (N : Int))), (7, .int (ki x9)), (0, .ref b), (1, .ref (a 0)), (2, .ref z0), (3, .ref y)]) hx hb dL_law_460 hl (by decide) rfl (fun ls hl => ?_)
    refine lv_iload hx hb dL_law_462 (lv_at hl 1 rfl) ?_
    refine kv_if_ge_t (tgt := 471) hx hb (by omega) (by omega) (by omega) dL_law_464 (by decide) ?_
    refine lv_iconst (v := ki 0) hx hb dL_law_471 rfl ?_
    refine lv_lload hx hb dL_law_472 (lv_at hl 0 rfl) ?_
    refine lv_lconst (v := kj 0) hx hb dL_law_474 rfl ?_
    refine W.lcmp hx hb dL_law_475 ?_
    rw [kJ_cmp (a := (m0 : Int)) (b := 0) (by omega) (by omega) (by omega) (by omega)]
    obtain ⟨lc, elc, hlc⟩ : ∃ lc : Int, (if (0 : Int) < (m0 : Int) then (1 : Int) else if (m0 : Int) = 0 then 0 else -1) = lc ∧ 0 ≤ lc ∧ lc ≤ 1 := ⟨_, rfl, by split; omega; split <;> omega⟩
    rw [elc]
    refine kv_if_ge_t (tgt := 483) hx hb (by omega) (by omega) (by omega) dL_law_476 (by decide) ?_
    refine lv_iconst (v := ki 0) hx hb dL_law_483 rfl ?_
    refine kv_icmp_ne_f (tgt := 508) hx hb (by omega) (by omega) (by omega) (by omega) (by omega) dL_law_484 (by decide) ?_
    refine lv_iload hx hb dL_law_487 (lv_at hl 1 rfl) ?_
    refine lv_iconst (v := ki 4) hx hb dL_law_489 rfl ?_
    refine kv_icmp_gt_f (tgt := 508) hx hb (by omega) (by omega) (by omega) (by omega) (by omega) dL_law_490 (by decide) ?_
    refine lv_iload hx hb dL_law_493 (lv_at hl 1 rfl) ?_
    refine kv_if_lt_f (tgt := 510) hx hb (by omega) (by omega) (by omega) dL_law_495 (by decide) ?_
    refine lv_lload hx hb dL_law_498 (lv_at hl 0 rfl) ?_
    have hfb := x_bcl (S := S457) (m := m0) hm0 (by omega)
    rw [hcnt] at hfb
    have hPc := blk_P (bs := ([[(z0, .inr (12, [.ref b, .ref q1, .ref q2, .ref q3, .ref q4, .ref q5, .ref q6, .ref q7])), (q1, .inl (cy 0, 6, .inl fh)), (q2, .inl (cy 0, 30, .inl fd)), (q4, .inl (cy 0, 30, .inl fs))], w, xW cy xtb a S457] : List va_W)) (rs := ([[(z0, .inr (12, [.ref b, .ref q1, .ref q2, .ref q3, .ref q4, .ref q5, .ref q6, .ref q7])), (q1, .inl (cy 0, 6, .inl fh)), (q2, .inl (cy 0, 30, .inl fd)), (q4, .inl (cy 0, 30, .inl fs))], w] : List va_W)) (x := xW cy xtb a S457) 2 rfl rfl hP
    have hDc := blk_D (bs := ([[(z0, .inr (12, [.ref b, .ref q1, .ref q2, .ref q3, .ref q4, .ref q5, .ref q6, .ref q7])), (q1, .inl (cy 0, 6, .inl fh)), (q2, .inl (cy 0, 30, .inl fd)), (q4, .inl (cy 0, 30, .inl fs))], w, xW cy xtb a S457] : List va_W)) (rs := ([[(z0, .inr (12, [.ref b, .ref q1, .ref q2, .ref q3, .ref q4, .ref q5, .ref q6, .ref q7])), (q1, .inl (cy 0, 6, .inl fh)), (q2, .inl (cy 0, 30, .inl fd)), (q4, .inl (cy 0, 30, .inl fs))], w] : List va_W)) (x := xW cy xtb a S457) 2 rfl rfl hD
    refine lw_si hx hb hml hown hts (K_sub hK) hEx hI hPc hDc hS hA (⟨xw_mem 1060 (by decide +kernel) rfl, xw_mem 55 (by decide +kernel) rfl, xw_mem 1058 (by decide +kernel) rfl, by decide +kernel⟩ : xML RL 140 yJ13_bitCount_95d88 cJ13_bitCount_95d88 2 (some .int) 1) (xw_mem 1059 (by decide +kernel) rfl) [.long (kj (m0 : Int))] (rest := []) (c_J13_bitCount_95d88 hI hfb _) ⟨by omega, by omega⟩ ⟨by omega, by omega⟩ rfl hl.1 rfl (Nat.le_of_ble_eq_true (rfl)) dL_law_500 (fun H locs hPn hS => ?_)
    have hDn := hDc
    have hP := blk_P2 (bs := ([[(z0, .inr (12, [.ref b, .ref q1, .ref q2, .ref q3, .ref q4, .ref q5, .ref q6, .ref q7])), (q1, .inl (cy 0, 6, .inl fh)), (q2, .inl (cy 0, 30, .inl fd)), (q4, .inl (cy 0, 30, .inl fs))], w, xW cy xtb a S457] : List va_W)) (rs := ([[(z0, .inr (12, [.ref b, .ref q1, .ref q2, .ref q3, .ref q4, .ref q5, .ref q6, .ref q7])), (q1, .inl (cy 0, 6, .inl fh)), (q2, .inl (cy 0, 30, .inl fd)), (q4, .inl (cy 0, 30, .inl fs))], w] : List va_W)) (x := xW cy xtb a S457) 2 rfl rfl hPn
    have hD := blk_D2 (bs := ([[(z0, .inr (12, [.ref b, .ref q1, .ref q2, .ref q3, .ref q4, .ref q5, .ref q6, .ref q7])), (q1, .inl (cy 0, 6, .inl fh)), (q2, .inl (cy 0, 30, .inl fd)), (q4, .inl (cy 0, 30, .inl fs))], w, xW cy xtb a S457] : List va_W)) (rs := ([[(z0, .inr (12, [.ref b, .ref q1, .ref q2, .ref q3, .ref q4, .ref q5, .ref q6, .ref q7])), (q1, .inl (cy 0, 6, .inl fh)), (q2, .inl (cy 0, 30, .inl fd)), (q4, .inl (cy 0, 30, .inl fs))], w] : List va_W)) (x := xW cy xtb a S457) 2 rfl rfl hDn
    refine lv_iload hx hb dL_law_503 (lv_at hl 1 rfl) ?_
    refine kv_icmp_eq_t (tgt := 510) hx hb (by omega) (by omega) (by omega) (by omega) (by omega) dL_law_505 (by decide) ?_
    refine lv_iload hx hb dL_law_510 (lv_at hl 1 rfl) ?_
    refine kv_if_lt_f (tgt := 721) hx hb (by omega) (by omega) (by omega) dL_law_512 (by decide) ?_
    refine lv_iconst (v := ki (-1)) hx hb dL_law_515 rfl ?_
    refine lv_istore (lv' := [(11, .int (ki (-1))), (9, .long (kj (m0 : Int))), (8, .int (ki (N : Int))), (7, .int (ki x9)), (0, .ref b), (1, .ref (a 0)), (2, .ref z0), (3, .ref y)]) hx hb dL_law_516 hl (by decide) rfl (fun ls hl => ?_)
    refine RA_3 hx hb hml hown hts hK hN hZ hX hbl hbA hNs hEx hA hI hR hL hF (k0 := k) (n0 := n) ⟨by omega, by omega⟩ hm0 (by omega) hE hh hw9 hcov hmin (fun S2 k9 n9 hk9 hn9 hB hi H locs ls hl hP hD hS => ?_) 31 0 (by omega) _ _ _ (by omega) (by omega) hB hi _ _ ls (lv_sub hl [4, 5, 6, 7, 3, 2, 1, 0] rfl) hP hD hS
    exact kk S2 _ _ (by omega) (by omega) hB hi H _ ls (lv_sub hl [0, 1, 2, 3] rfl) hP hD hS
end LAW
