/-! part ax: the law's loop; the law from its entry -/
theorem dL_law_0 : decode cL_law 0 = .ok (.new 7, 3) := by decide +kernel
theorem dL_law_3 : decode cL_law 3 = .ok (.dup, 1) := by decide +kernel
theorem dL_law_4 : decode cL_law 4 = .ok (.invokespecial 9, 3) := by decide +kernel
theorem dL_law_7 : decode cL_law 7 = .ok (.astore_n 1, 1) := by decide +kernel
theorem dL_law_8 : decode cL_law 8 = .ok (.new 10, 3) := by decide +kernel
theorem dL_law_11 : decode cL_law 11 = .ok (.dup, 1) := by decide +kernel
theorem dL_law_12 : decode cL_law 12 = .ok (.invokespecial 12, 3) := by decide +kernel
theorem dL_law_15 : decode cL_law 15 = .ok (.astore_n 2, 1) := by decide +kernel
theorem dL_law_16 : decode cL_law 16 = .ok (.iconst 0, 1) := by decide +kernel
theorem dL_law_17 : decode cL_law 17 = .ok (.istore_n 3, 1) := by decide +kernel
theorem dL_law_18 : decode cL_law 18 = .ok (.iload_n 3, 1) := by decide +kernel
theorem dL_law_19 : decode cL_law 19 = .ok (.aload_n 0, 1) := by decide +kernel
theorem dL_law_20 : decode cL_law 20 = .ok (.arraylength, 1) := by decide +kernel
theorem dL_law_21 : decode cL_law 21 = .ok (.bipush 6, 2) := by decide +kernel
theorem dL_law_23 : decode cL_law 23 = .ok (.isub, 1) := by decide +kernel
theorem dL_law_24 : decode cL_law 24 = .ok (.if_icmp .gt 1466, 3) := by decide +kernel
theorem dL_law_27 : decode cL_law 27 = .ok (.aload_n 0, 1) := by decide +kernel
theorem dL_law_28 : decode cL_law 28 = .ok (.iload_n 3, 1) := by decide +kernel
theorem dL_law_29 : decode cL_law 29 = .ok (.iaload, 1) := by decide +kernel
theorem dL_law_30 : decode cL_law 30 = .ok (.bipush 63, 2) := by decide +kernel
theorem dL_law_32 : decode cL_law 32 = .ok (.iand, 1) := by decide +kernel
theorem dL_law_1484 : decode cL_law 1484 = .ok (.iinc 3 6, 3) := by decide +kernel
theorem dL_law_1487 : decode cL_law 1487 = .ok (.goto (-1469), 3) := by decide +kernel
theorem dL_law_1490 : decode cL_law 1490 = .ok (.iconst 1, 1) := by decide +kernel
theorem dL_law_1491 : decode cL_law 1491 = .ok (.ireturn, 1) := by decide +kernel
theorem nI_ki {n : Nat} (h : n < 2147483648) : nI n = ki (n : Int) := Int32.toInt_inj.mp (by rw [nI_toInt h, ki_ti (by omega) (by omega)])
theorem nI_plus {n k : Nat} (h : n + k < 2147483648) : nI n + nI k = nI (n + k) := by
  rw [nI_ki (by omega), nI_ki (by omega), nI_ki h, ki_add]
  rfl
theorem lw_room {i L : Nat} (hL : L ≤ 3072) (hi : i ≤ L) (hc : ¬ nI L - 6 < nI i) : i + 6 ≤ L := by
  rw [nI_ki (by omega), nI_ki (by omega), show (6 : Int32) = ki 6 from rfl, ki_sub, ki_lt (by omega) (by omega) (by omega) (by omega)] at hc
  omega
set_option maxHeartbeats 8000000 in
set_option maxRecDepth 100000 in
/-- at the loop's head, with i ints read -/
theorem law_loop {p : Program} {l : Launch} {e : Env} {s : State} {m : MethodId} {below : List Frame} {meth : Method} {c : Code} {b L : Nat} {xs : Nat → Int32} {D : va_G} {cy : Nat → ClassId} {z a a' : Nat → Nat} (hL : L ≤ 3072) (C0 : lw_At p s m meth c b L xs) (hK : va_K D vwCl (xty cy) s) (hIx : xI xtb a) (hIm : xI xmb a') (hEx : xEx z (fun q => s.heap.size ≤ q) s s.heap) (hDD : ∀ S T : xSt, va_D (fun q => s.heap.size ≤ q) (xW cy xtb a S ++ xW cy xmb a' T)) :
    ∀ (n i : Nat), i ≤ L → L + 1 ≤ i + n → ∀ (SX SM : xSt) (H : Heap) (locs : List Loc), RR SX SM → va_P D vwCl (xW cy xtb a SX ++ xW cy xmb a' SM) H → va_S (fun q => s.heap.size ≤ q) s.heap H locs → ∀ ls : Array Slot, lv_has ls 4 [(3, .int (nI i)), (0, .ref b), (1, .ref (a 0)), (2, .ref (a' 0))] → W p l e room_1 s m #[Value.ref b] below meth c H locs 157 7672 (lw_Z below #[Value.ref b] s) (F0 m 18 ls []) := by
  obtain ⟨hx, hb, hr, hml, hown, hts, hX, hbl, hlocks, hgv⟩ := id C0
  have hbA : ¬ (fun q : Nat => s.heap.size ≤ q) b := Nat.not_le.mpr hbl
  intro n
  induction n with
  | zero =>
    intro i h1 h2
    exact absurd h2 (by omega)
  | succ n ih =>
    intro i hi hin SX SM H locs hRR hP hS ls hl
    refine lv_iload_n hx hb dL_law_18 rfl (lv_at hl 0 rfl) ?_
    refine lv_aload_n hx hb dL_law_19 rfl (lv_at hl 1 rfl) ?_
    refine va_slen hx hb hX hbl hbA hS dL_law_20 ?_
    refine lv_bipush (v := (6 : Int32)) hx hb dL_law_21 (by decide) ?_
    refine lv_isub hx hb dL_law_23 ?_
    refine lv_icmp_gt (tgt := 1490) hx hb dL_law_24 (by decide) (fun c1 => ?_) (fun c1 => ?_)
    · refine lv_iconst (v := 1) hx hb dL_law_1490 (by decide) ?_
      refine va_forget (fun q hq => hS.2.2 q hq) ?_
      refine W.widen (k := 600000) (n := 7302250) (Nat.le_of_ble_eq_true rfl) (Nat.le_of_ble_eq_true rfl) ?_
      exact lw_ret hx hb hr hlocks dL_law_1491
    · have h6 : i + 6 ≤ L := lw_room hL hi c1
      refine lv_aload_n hx hb dL_law_27 rfl (lv_at hl 1 rfl) ?_
      refine lv_iload_n hx hb dL_law_28 rfl (lv_at hl 0 rfl) ?_
      refine va_sld hx hb hX hbl hbA hS (vp_in_nI (by omega) (by omega)) dL_law_29 ?_
      refine lv_bipush (v := (63 : Int32)) hx hb dL_law_30 (by decide) ?_
      refine lv_iand hx hb dL_law_32 ?_
      have hl2 : lv_has ls 4 [(0, .ref b), (1, .ref (a 0)), (2, .ref (a' 0)), (3, .int (nI i))] := lv_sub hl [1, 2, 3, 0] rfl
      have hj : ∀ J : Int32, (J = 1 ∨ J = 2 ∨ J = 3 ∨ J = 4 ∨ J = 5) → vp_in (nI i + J) L := by
        intro J hJ
        rcases hJ with rfl | rfl | rfl | rfl | rfl
        · rw [show (1 : Int32) = nI 1 from rfl, nI_plus (by omega)]; exact vp_in_nI (by omega) (by omega)
        · rw [show (2 : Int32) = nI 2 from rfl, nI_plus (by omega)]; exact vp_in_nI (by omega) (by omega)
        · rw [show (3 : Int32) = nI 3 from rfl, nI_plus (by omega)]; exact vp_in_nI (by omega) (by omega)
        · rw [show (4 : Int32) = nI 4 from rfl, nI_plus (by omega)]; exact vp_in_nI (by omega) (by omega)
        · rw [show (5 : Int32) = nI 5 from rfl, nI_plus (by omega)]; exact vp_in_nI (by omega) (by omega)
      refine lw_disp (z := z) (L := L) (xs := xs) (x3 := nI i) ⟨C0, hK, hIx, hIm, hEx, hDD, hl2, hj⟩ (fun SX SM H locs hRR hP hS => ?_) hRR hP hS
      refine lv_iinc (v := nI (i + 6)) (lv' := [(3, .int (nI (i + 6))), (0, .ref b), (1, .ref (a 0)), (2, .ref (a' 0))]) hx hb dL_law_1484 hl (k := 0) rfl (by rw [← nI_plus (by omega)]; rfl) (by decide) rfl (fun ls hl => ?_)
      refine lv_goto (tgt := 18) hx hb dL_law_1487 (by decide) ?_
      exact ih (i + 6) h6 (by omega) SX SM H locs hRR hP hS ls hl
set_option maxHeartbeats 2000000 in
set_option maxRecDepth 100000 in
theorem whole_start {p : Program} {e : Env} {s : State} {m : MethodId} {below : List Frame} {meth : Method} {c : Code} (l : Launch) (hflags : l.flags = flags0) {b L : Nat} {xs : Nat → Int32} (hL : L ≤ 3072) (C0 : lw_At p s m meth c b L xs) : W p l e room_1 s m #[Value.ref b] below meth c s.heap [] 0 0 (lw_Z below #[Value.ref b] s) (entryFrame m ([Value.ref b] : List Value).toArray 4) := by
  obtain ⟨hx, hb, hr, hml, hown, hts, hX, hbl, hlocks, hgv⟩ := id C0
  have hb : c.code = cL_law := hb
  have hown2 : s.vm.findClass RL = some m.cls := hown
  have hts' : ∀ w ∈ xTB, w.before #[Value.ref b] s = true := fun w hw => hts w (List.mem_filter.mp hw).1
  have hA : ∀ q : Nat, s.heap.size ≤ q → (fun q : Nat => s.heap.size ≤ q) q := fun _ h => h
  obtain ⟨D, cy, hK⟩ := x_K0 hts' (hts _ xo4) (hts _ xo8)
  obtain ⟨z, hEx⟩ := x_Ex0 (A := fun q : Nat => s.heap.size ≤ q) hts hgv (fun a h1 h2 => absurd h1 (Nat.not_lt.mpr h2))
  have hN := x_N11 hts
  have hS : va_S (fun q : Nat => s.heap.size ≤ q) s.heap s.heap [] := va_S.rf
  have hP : va_P D vwCl [] s.heap := fun k q h => by simp at h
  have hD : va_D (fun q : Nat => s.heap.size ≤ q) [] := ⟨fun i j p q h => by simp at h, fun k q h => by simp at h⟩
  have hl := lv_entry ([.ref b]) (n := 4) (Nat.le_of_ble_eq_true rfl)
  rw [lg_entry_eq]
  generalize (lg_sl ([.ref b]) ++ List.replicate (4 - (lg_sl ([.ref b])).length) Slot.unset).toArray = ls at hl ⊢
  have hl : lv_has ls 4 [(0, .ref b)] := hl
  refine va_new (ci := 11) (fs := [.null, .null, .null, .null, .int 0, .null, .null, .null, .null, .null, .null, .null, .null]) (C := RX11) (T := TX11) (N := 13) hx hb hts' xin_X11 tyX11 tyX11_ok hown2 (hts' _ (xw_mem 114 (by decide +kernel) rfl)) (hts' _ (xw_mem 115 (by decide +kernel) rfl)) (hts' _ (xw_mem 98 (by decide +kernel) rfl)) hK hP hD hS hA rfl fsX11 (Nat.le_of_ble_eq_true rfl) (Nat.le_of_ble_eq_true rfl) dL_law_0 (fun p0 H hP hD hS => ?_)
  refine lv_dup hx hb dL_law_3 rfl ?_
  refine x_ctor hx hb hml hown2 hts' (xgood (xw_mem 118 (by decide +kernel) rfl)) (xw_mem 98 (by decide +kernel) rfl) (xw_mem 116 (by decide +kernel) rfl) ⟨by decide, by decide, by decide +kernel⟩ rfl (xw_mem 117 (by decide +kernel) rfl) hP hD hS hA (wc := [(p0, .inr (11, [.null, .null, .null, .null, .int 0, .null, .null, .null, .null, .null, .null, .null, .null]))]) (n := 0) (rest := [.ref p0]) [] (c_X11_init l D cy p0 H.size) xN11_bl (fun U hU hW => ⟨by rw [hU], by rw [hU]; exact xP_last hP, va_K.moved hW.alike hK, (xD_last hD).weaken (fun _ _ _ _ => trivial), hN.warm hW⟩) ⟨(Nat.le_of_ble_eq_true rfl), (Nat.le_of_ble_eq_true rfl)⟩ (Nat.le_of_ble_eq_true rfl) (Nat.le_of_ble_eq_true rfl) rfl hl.1 rfl (Nat.le_of_ble_eq_true rfl) dL_law_4 (fun t H locs ht hB hJ hS => ?_)
  obtain ⟨w1, hw1, hP1, hD1⟩ := hB
  rw [ht] at hP1
  obtain ⟨hP, hD⟩ := hJ _ hP1 hD1
  have hP : va_P D vwCl w1 H := hP
  have hD : va_D (fun q : Nat => s.heap.size ≤ q) w1 := hD
  obtain ⟨a, ha0, hP2, hD2⟩ := xX_end hw1 hP hD
  subst ha0
  have hP := hP2
  have hD := hD2
  clear hP2 hD2 hP1 hD1 hJ hw1
  generalize hWX : xW cy xtb a S0X = wX at hP hD
  refine lv_astore_n (lv' := [(1, .ref (a 0)), (0, .ref b)]) hx hb dL_law_7 rfl hl (by decide) rfl (fun ls hl => ?_)
  refine va_new (ci := 12) (fs := [.int 0, .null, .null, .null, .null, .null, .null, .null, .null, .null, .int 0, .int 0, .null, .null, .null, .null, .null, .int 0, .int 0, .int 0, .int 0, .int 0, .null, .null, .null, .null, .null, .null, .null, .int 0, .null, .null, .null, .null, .null, .null, .null, .long 0, .long 0, .null, .null, .int 0, .int 0, .null, .int 0, .int 0, .int 0, .int 0, .int 0, .int 0, .null, .null, .null, .int 0, .null, .int 0, .null, .null, .null, .null, .null]) (C := RX12) (T := TX12) (N := 61) hx hb hts' xin_X12 tyX12 tyX12_ok hown2 (hts' _ (xw_mem 1087 (by decide +kernel) rfl)) (hts' _ (xw_mem 1088 (by decide +kernel) rfl)) (hts' _ (xw_mem 110 (by decide +kernel) rfl)) hK hP hD hS hA rfl fsX12 (Nat.le_of_ble_eq_true rfl) (Nat.le_of_ble_eq_true rfl) dL_law_8 (fun p1 H hP hD hS => ?_)
  refine lv_dup hx hb dL_law_11 rfl ?_
  refine x_cleaf hx hb hml hown2 hts' (xgood (xw_mem 1091 (by decide +kernel) rfl)) (xw_mem 110 (by decide +kernel) rfl) (xw_mem 1089 (by decide +kernel) rfl) ⟨by decide, by decide, by decide +kernel⟩ rfl (xw_mem 1090 (by decide +kernel) rfl) hK hP hD hS hA (wc := [(p1, .inr (12, [.int 0, .null, .null, .null, .null, .null, .null, .null, .null, .null, .int 0, .int 0, .null, .null, .null, .null, .null, .int 0, .int 0, .int 0, .int 0, .int 0, .null, .null, .null, .null, .null, .null, .null, .int 0, .null, .null, .null, .null, .null, .null, .null, .long 0, .long 0, .null, .null, .int 0, .int 0, .null, .int 0, .int 0, .int 0, .int 0, .int 0, .int 0, .null, .null, .null, .int 0, .null, .int 0, .null, .null, .null, .null, .null]))]) (n := 0) (rest := [.ref p1]) [] (c_X12_init l D cy p1 H.size) ⟨(Nat.le_of_ble_eq_true rfl), (Nat.le_of_ble_eq_true rfl)⟩ (Nat.le_of_ble_eq_true rfl) (Nat.le_of_ble_eq_true rfl) rfl hl.1 rfl (Nat.le_of_ble_eq_true rfl) dL_law_12 (fun t H locs ht hB hJ hS => ?_)
  obtain ⟨q1, q2, q3, q4, q5, q6, q7, q8, q9, q10, q11, q12, q13, q14, q15, q16, q17, q18, q19, q20, q21, q22, q23, q24, q25, q26, q27, q28, q29, q30, q31, q32, q33, q34, q35, q36, q37, q38, q39, q40, hP1, hD1⟩ := hB
  rw [ht] at hP1
  obtain ⟨w2, hw2, hP3, hD3⟩ : ∃ w, is_X12 cy p1 w ∧ va_P D vwCl (wX ++ w) H ∧ va_D (fun q : Nat => s.heap.size ≤ q) (wX ++ w) := ⟨_, ⟨q1, q2, q3, q4, q5, q6, q7, q8, q9, q10, q11, q12, q13, q14, q15, q16, q17, q18, q19, q20, q21, q22, q23, q24, q25, q26, q27, q28, q29, q30, q31, q32, q33, q34, q35, q36, q37, q38, q39, q40, rfl⟩, hJ _ hP1 hD1⟩
  obtain ⟨a', ha0, hw3⟩ := xM_eq hw2
  rw [hw3] at hP3 hD3
  clear hw3 hw2 hJ hP1 hD1 hP hD w2
  subst ha0
  rw [← hWX] at hP3 hD3
  clear hWX
  have hP := hP3
  have hD := hD3
  refine lv_astore_n (lv' := [(2, .ref (a' 0)), (1, .ref (a 0)), (0, .ref b)]) hx hb dL_law_15 rfl hl (by decide) rfl (fun ls hl => ?_)
  refine lv_iconst (v := nI 0) hx hb dL_law_16 (by decide) ?_
  refine lv_istore_n (lv' := [(3, .int (nI 0)), (2, .ref (a' 0)), (1, .ref (a 0)), (0, .ref b)]) hx hb dL_law_17 rfl hl (by decide) rfl (fun ls hl => ?_)
  refine W.widen (k := 157) (n := 7672) (Nat.le_of_ble_eq_true rfl) (Nat.le_of_ble_eq_true rfl) ?_
  exact law_loop (z := z) hL C0 hK (xI_of_D (xD_left hD)) (xI_of_D (xD_last hD)) hEx (fun S T => xD_any hD) (L + 1) 0 (Nat.zero_le L) (by omega) S0X S0M H _ RR_0 hP hS ls (lv_sub hl [0, 3, 2, 1] rfl)
