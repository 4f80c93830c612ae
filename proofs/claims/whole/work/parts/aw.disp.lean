/-! part aw: the law's loop -/
theorem dL_law_33 : decode cL_law 33 = .ok (.tableswitch 1451 0 41 #[183, 216, 259, 302, 335, 358, 371, 394, 437, 470, 503, 526, 550, 593, 626, 639, 682, 695, 738, 751, 784, 827, 860, 903, 926, 949, 972, 985, 1008, 1021, 1034, 1047, 1060, 1083, 1126, 1149, 1182, 1225, 1298, 1332, 1395, 1428], 183) := by decide +kernel
set_option maxHeartbeats 8000000 in
set_option maxRecDepth 100000 in
theorem lw_disp {p : Program} {l : Launch} {e : Env} {s : State} {m : MethodId} {below : List Frame} {meth : Method} {c : Code} {b L : Nat} {xs : Nat → Int32} {D : va_G} {cy : Nat → ClassId} {z a a' : Nat → Nat} {ls : Array Slot} {x3 : Int32} {Q : State → Prop} (B : lwB p s m meth c b L xs D cy z a a' ls x3) (kk : lwC p l e s m below meth c b D cy a a' ls Q 1484) {x : Int32} {SX SM : xSt} {H : Heap} {locs : List Loc} (hRR : RR SX SM) (hP : va_P D vwCl (xW cy xtb a SX ++ xW cy xmb a' SM) H) (hS : va_S (fun q => s.heap.size ≤ q) s.heap H locs) : W p l e room_1 s m #[Value.ref b] below meth c H locs 157 7672 Q (F0 m 33 ls [.int x]) := by
  have hx := B.1.1
  have hb := B.1.2.1
  by_cases hk : x.toInt < 0 ∨ 41 < x.toInt
  · exact lv_tableOut (tgt := 1484) hx hb dL_law_33 hk (by decide) (kk _ _ _ _ hRR hP hS)
  · obtain ⟨k, hk2⟩ : ∃ k : Nat, x.toInt = (k : Int) := ⟨x.toInt.toNat, by omega⟩
    have h1 : ¬ x.toInt < 0 := by omega
    have h2 : ¬ (41 : Int) < x.toInt := by omega
    have h3 : k < 42 := by omega
    clear hk
    have hj : k = 0 ∨ k = 1 ∨ k = 2 ∨ k = 3 ∨ k = 4 ∨ k = 5 ∨ k = 6 ∨ k = 7 ∨ k = 8 ∨ k = 9 ∨ k = 10 ∨ k = 11 ∨ k = 12 ∨ k = 13 ∨ k = 14 ∨ k = 15 ∨ k = 16 ∨ k = 17 ∨ k = 18 ∨ k = 19 ∨ k = 20 ∨ k = 21 ∨ k = 22 ∨ k = 23 ∨ k = 24 ∨ k = 25 ∨ k = 26 ∨ k = 27 ∨ k = 28 ∨ k = 29 ∨ k = 30 ∨ k = 31 ∨ k = 32 ∨ k = 33 ∨ k = 34 ∨ k = 35 ∨ k = 36 ∨ k = 37 ∨ k = 38 ∨ k = 39 ∨ k = 40 ∨ k = 41 := by omega
    rcases hj with rfl | rfl | rfl | rfl | rfl | rfl | rfl | rfl | rfl | rfl | rfl | rfl | rfl | rfl | rfl | rfl | rfl | rfl | rfl | rfl | rfl | rfl | rfl | rfl | rfl | rfl | rfl | rfl | rfl | rfl | rfl | rfl | rfl | rfl | rfl | rfl | rfl | rfl | rfl | rfl | rfl | rfl
    · exact lv_tableIn (tgt := 216) hx hb dL_law_33 h1 h2 (by rw [hk2]; rfl) (by decide) (lc_0 B kk _ _ _ _ hRR hP hS)
    · exact lv_tableIn (tgt := 249) hx hb dL_law_33 h1 h2 (by rw [hk2]; rfl) (by decide) (lc_1 B kk _ _ _ _ hRR hP hS)
    · exact lv_tableIn (tgt := 292) hx hb dL_law_33 h1 h2 (by rw [hk2]; rfl) (by decide) (lc_2 B kk _ _ _ _ hRR hP hS)
    · exact lv_tableIn (tgt := 335) hx hb dL_law_33 h1 h2 (by rw [hk2]; rfl) (by decide) (lc_3 B kk _ _ _ _ hRR hP hS)
    · exact lv_tableIn (tgt := 368) hx hb dL_law_33 h1 h2 (by rw [hk2]; rfl) (by decide) (lc_4 B kk _ _ _ _ hRR hP hS)
    · exact lv_tableIn (tgt := 391) hx hb dL_law_33 h1 h2 (by rw [hk2]; rfl) (by decide) (lc_5 B kk _ _ _ _ hRR hP hS)
    · exact lv_tableIn (tgt := 404) hx hb dL_law_33 h1 h2 (by rw [hk2]; rfl) (by decide) (lc_6 B kk _ _ _ _ hRR hP hS)
    · exact lv_tableIn (tgt := 427) hx hb dL_law_33 h1 h2 (by rw [hk2]; rfl) (by decide) (lc_7 B kk _ _ _ _ hRR hP hS)
    · exact lv_tableIn (tgt := 470) hx hb dL_law_33 h1 h2 (by rw [hk2]; rfl) (by decide) (lc_8 B kk _ _ _ _ hRR hP hS)
    · exact lv_tableIn (tgt := 503) hx hb dL_law_33 h1 h2 (by rw [hk2]; rfl) (by decide) (lc_9 B kk _ _ _ _ hRR hP hS)
    · exact lv_tableIn (tgt := 536) hx hb dL_law_33 h1 h2 (by rw [hk2]; rfl) (by decide) (lc_10 B kk _ _ _ _ hRR hP hS)
    · exact lv_tableIn (tgt := 559) hx hb dL_law_33 h1 h2 (by rw [hk2]; rfl) (by decide) (lc_11 B kk _ _ _ _ hRR hP hS)
    · exact lv_tableIn (tgt := 583) hx hb dL_law_33 h1 h2 (by rw [hk2]; rfl) (by decide) (lc_12 B kk _ _ _ _ hRR hP hS)
    · exact lv_tableIn (tgt := 626) hx hb dL_law_33 h1 h2 (by rw [hk2]; rfl) (by decide) (lc_13 B kk _ _ _ _ hRR hP hS)
    · exact lv_tableIn (tgt := 659) hx hb dL_law_33 h1 h2 (by rw [hk2]; rfl) (by decide) (lc_14 B kk _ _ _ _ hRR hP hS)
    · exact lv_tableIn (tgt := 672) hx hb dL_law_33 h1 h2 (by rw [hk2]; rfl) (by decide) (lc_15 B kk _ _ _ _ hRR hP hS)
    · exact lv_tableIn (tgt := 715) hx hb dL_law_33 h1 h2 (by rw [hk2]; rfl) (by decide) (lc_16 B kk _ _ _ _ hRR hP hS)
    · exact lv_tableIn (tgt := 728) hx hb dL_law_33 h1 h2 (by rw [hk2]; rfl) (by decide) (lc_17 B kk _ _ _ _ hRR hP hS)
    · exact lv_tableIn (tgt := 771) hx hb dL_law_33 h1 h2 (by rw [hk2]; rfl) (by decide) (lc_18 B kk _ _ _ _ hRR hP hS)
    · exact lv_tableIn (tgt := 784) hx hb dL_law_33 h1 h2 (by rw [hk2]; rfl) (by decide) (lc_19 B kk _ _ _ _ hRR hP hS)
    · exact lv_tableIn (tgt := 817) hx hb dL_law_33 h1 h2 (by rw [hk2]; rfl) (by decide) (lc_20 B kk _ _ _ _ hRR hP hS)
    · exact lv_tableIn (tgt := 860) hx hb dL_law_33 h1 h2 (by rw [hk2]; rfl) (by decide) (lc_21 B kk _ _ _ _ hRR hP hS)
    · exact lv_tableIn (tgt := 893) hx hb dL_law_33 h1 h2 (by rw [hk2]; rfl) (by decide) (lc_22 B kk _ _ _ _ hRR hP hS)
    · exact lv_tableIn (tgt := 936) hx hb dL_law_33 h1 h2 (by rw [hk2]; rfl) (by decide) (lc_23 B kk _ _ _ _ hRR hP hS)
    · exact lv_tableIn (tgt := 959) hx hb dL_law_33 h1 h2 (by rw [hk2]; rfl) (by decide) (lc_24 B kk _ _ _ _ hRR hP hS)
    · exact lv_tableIn (tgt := 982) hx hb dL_law_33 h1 h2 (by rw [hk2]; rfl) (by decide) (lc_25 B kk _ _ _ _ hRR hP hS)
    · exact lv_tableIn (tgt := 1005) hx hb dL_law_33 h1 h2 (by rw [hk2]; rfl) (by decide) (lc_26 B kk _ _ _ _ hRR hP hS)
    · exact lv_tableIn (tgt := 1018) hx hb dL_law_33 h1 h2 (by rw [hk2]; rfl) (by decide) (lc_27 B kk _ _ _ _ hRR hP hS)
    · exact lv_tableIn (tgt := 1041) hx hb dL_law_33 h1 h2 (by rw [hk2]; rfl) (by decide) (lc_28 B kk _ _ _ _ hRR hP hS)
    · exact lv_tableIn (tgt := 1054) hx hb dL_law_33 h1 h2 (by rw [hk2]; rfl) (by decide) (lc_29 B kk _ _ _ _ hRR hP hS)
    · exact lv_tableIn (tgt := 1067) hx hb dL_law_33 h1 h2 (by rw [hk2]; rfl) (by decide) (lc_30 B kk _ _ _ _ hRR hP hS)
    · exact lv_tableIn (tgt := 1080) hx hb dL_law_33 h1 h2 (by rw [hk2]; rfl) (by decide) (lc_31 B kk _ _ _ _ hRR hP hS)
    · exact lv_tableIn (tgt := 1093) hx hb dL_law_33 h1 h2 (by rw [hk2]; rfl) (by decide) (lc_32 B kk _ _ _ _ hRR hP hS)
    · exact lv_tableIn (tgt := 1116) hx hb dL_law_33 h1 h2 (by rw [hk2]; rfl) (by decide) (lc_33 B kk _ _ _ _ hRR hP hS)
    · exact lv_tableIn (tgt := 1159) hx hb dL_law_33 h1 h2 (by rw [hk2]; rfl) (by decide) (lc_34 B kk _ _ _ _ hRR hP hS)
    · exact lv_tableIn (tgt := 1182) hx hb dL_law_33 h1 h2 (by rw [hk2]; rfl) (by decide) (lc_35 B kk _ _ _ _ hRR hP hS)
    · exact lv_tableIn (tgt := 1215) hx hb dL_law_33 h1 h2 (by rw [hk2]; rfl) (by decide) (lc_36 B kk _ _ _ _ hRR hP hS)
    · exact lv_tableIn (tgt := 1258) hx hb dL_law_33 h1 h2 (by rw [hk2]; rfl) (by decide) (lc_37 B kk _ _ _ _ hRR hP hS)
    · exact lv_tableIn (tgt := 1331) hx hb dL_law_33 h1 h2 (by rw [hk2]; rfl) (by decide) (lc_38 B kk _ _ _ _ hRR hP hS)
    · exact lv_tableIn (tgt := 1365) hx hb dL_law_33 h1 h2 (by rw [hk2]; rfl) (by decide) (lc_39 B kk _ _ _ _ hRR hP hS)
    · exact lv_tableIn (tgt := 1428) hx hb dL_law_33 h1 h2 (by rw [hk2]; rfl) (by decide) (lc_40 B kk _ _ _ _ hRR hP hS)
    · exact lv_tableIn (tgt := 1461) hx hb dL_law_33 h1 h2 (by rw [hk2]; rfl) (by decide) (lc_41 B kk _ _ _ _ hRR hP hS)
