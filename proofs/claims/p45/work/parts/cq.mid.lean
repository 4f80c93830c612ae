/-! part cq: the law builds, looks and takes the image (made by wip/p45/gen_cq.py) -/
section LAW
variable {l : Launch} {D : va_G} {cy : Nat → ClassId} {mi zE zc : Nat} {ad z a : Nat → Nat} {b L : Nat} {xs : Nat → Int32}
variable {p : Program} {e : Env} {R : Room} {s : State} {m : MethodId} {args : Array Value} {below : List Frame} {meth : Method} {c : Code} {Q : State → Prop} {A : Nat → Prop}
variable {z0 q1 q2 q3 q4 q5 q6 q7 y : Nat} {fh fd fs : Nat → Int32} {w : va_W} {gn : (Int → Int) → Int} {η : Hy} {S : xSt} {k n : Nat}
set_option maxHeartbeats 4000000 in
set_option maxRecDepth 20000 in
theorem law_mid (hx : p.tables.exec = Jvm.exec) (hb : c.code = cL_law) (hml : c.maxLocals = 21) (hown : s.vm.findClass RL = some m.cls) (hts : ∀ w ∈ xTB, w.before args s = true) (hK : va_K D vwCl (xtyL cy) s) (hN : jN mi s) (hZ : jZ zE zc ad A s s.heap) (hX : va_X b L xs s s.heap) (hbl : b < s.heap.size) (hbA : ¬ A b) (hNs : nS s) (hEx : xEx z A s s.heap) (hA : ∀ q, s.heap.size ≤ q → A q) (hI : xI xtb a) (hR : 100 ≤ R.frames ∧ 4000 ≤ R.locals ∧ 600000 ≤ R.cells ∧ 7302250 ≤ R.slots) (hL : L ≤ 1000) (hF : nF s) (hB : BX η0 gn0 S) (ht : S.1 2 1 = ki 0) (hAO : va_AOA .int s) (hkn2 : k + 7000 ≤ R.cells ∧ n + 410000 ≤ R.slots) (kk : ∀ (k' n' : Nat) (H : Heap) (locs : List Loc) (ls : Array Slot), k' ≤ k + 7000 → n' ≤ n + 410000 → va_S A s.heap H locs → W p l e R s m args below meth c H locs k' n' Q (F0 m 1596 ls [])) {H : Heap} {locs : List Loc} {ls : Array Slot} (hl : lv_has ls 21 [(0, .ref b), (1, .ref (a 0))]) (hP : va_P D vwCl (List.flatten [xW cy xtb a S]) H) (hD : va_D A (List.flatten [xW cy xtb a S])) (hS : va_S A s.heap H locs) : W p l e R s m args below meth c H locs k n Q (F0 m 8 ls []) := by
  refine lv_aload_n hx hb dL_law_8 rfl (lv_at hl 1 rfl) ?_
  refine lv_aload_n hx hb dL_law_9 rfl (lv_at hl 0 rfl) ?_
  have hPc : va_P D vwCl (([] : va_W) ++ List.flatten [xW cy xtb a S]) H := by rw [List.nil_append]; exact hP
  have hDc : va_D A (([] : va_W) ++ List.flatten [xW cy xtb a S]) := by rw [List.nil_append]; exact hD
  refine kc_Si (n := 2) hx hb hml hown hts (⟨xw_mem 950 (by decide +kernel) rfl, xw_mem 29 (by decide +kernel) rfl, xw_mem 948 (by decide +kernel) rfl, by decide +kernel⟩ : xML RL 66 yL_built cL_built 5 (some .boolean) 2) (xw_mem 949 (by decide +kernel) rfl) (wc := List.flatten [xW cy xtb a S]) hPc hDc hS hA [.ref (a 0), .ref b] (rest := []) _ _ (c_L_built hL hB ht _) gP_bl (fun U hU hW => gP_to (wr := []) (bs := []) (S := S) hPc hDc hS hA hK hN hZ hX hbl hbA hNs hEx hU hW) ⟨by omega, by omega⟩ (by omega) (by omega) rfl hl.1 rfl (Nat.le_of_ble_eq_true (rfl)) dL_law_10 (fun r9 u t9 H locs ht9 hw hB9 hz hJ hS => ?_)
  subst hw
  obtain ⟨⟨S1, η⟩, hu⟩ : ∃ v : xSt × Hy, v = u := ⟨u, rfl⟩
  subst hu
  obtain ⟨⟨gn, hB⟩, hE, hP1, hD1⟩ := hB9
  dsimp only at hB hE hP1 hD1
  rw [ht9] at hP1
  obtain ⟨hP, hD⟩ := hJ _ hP1 hD1
  rw [List.nil_append] at hP hD
  sorry
end LAW
