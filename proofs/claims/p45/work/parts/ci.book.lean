/-! part ci: the law's own book (made by wip/p45/gen_ci.py) -/
section LAW
variable {l : Launch} {D : va_G} {cy : Nat → ClassId} {mi zE zc : Nat} {ad z a : Nat → Nat} {b L : Nat} {xs : Nat → Int32}
variable {p : Program} {e : Env} {R : Room} {s : State} {m : MethodId} {args : Array Value} {below : List Frame} {meth : Method} {c : Code} {Q : State → Prop} {A : Nat → Prop}
variable {z0 q1 q2 q3 q4 q5 q6 q7 y : Nat} {fh fd fs : Nat → Int32} {w : va_W} {gn : (Int → Int) → Int} {η : Hy} {S : xSt} {k n : Nat}
theorem wd_own {rd : Int → Int} {c : Int} (h : ∀ j : Nat, j < 9 → rd j = daysN gn j η 4 c) : ∀ m k : Nat, wdS gn η rd 9 c m k = -2
  | 0, k => rfl
  | m + 1, k => by
    unfold wdS
    by_cases q : (9 : Int) ≤ k
    · rw [if_pos q]
    · rw [if_neg q]
      by_cases q2 : rd k = 100
      · rw [if_pos q2]; exact wd_own h m (k + 1)
      · rw [if_neg q2, if_pos (h k (by omega))]; exact wd_own h m (k + 1)
theorem dmV_own {c : Int} {v : Nat} (h : η 3 c = v) : dmV η c v = η := by
  unfold dmV
  funext f
  by_cases e : f = 3
  · subst e
    rw [uh_s]
    funext t
    by_cases e2 : t = c
    · subst e2; rw [up_s, h]
    · rw [up_n _ _ e2]
  · rw [uh_n _ _ e]
theorem slV_own {c : Int} {v : Nat} (h : η 6 c = v) : slV η c v = η := by
  unfold slV
  funext f
  by_cases e : f = 6
  · subst e
    rw [uh_s]
    funext t
    by_cases e2 : t = c
    · subst e2; rw [up_s, h]
    · rw [up_n _ _ e2]
  · rw [uh_n _ _ e]
theorem fb_bit {f : Nat → Int} : ∀ (j v : Nat), v < j → f v = -2 → fbS f j / 2 ^ v % 2 = 1
  | 0, v, h, _ => absurd h (Nat.not_lt_zero v)
  | j + 1, v, h, hf => by
    have hb := fbS_b f j
    unfold fbS
    by_cases e : v = j
    · subst e
      rw [if_pos hf, Nat.add_div_right _ (Nat.pow_pos (by decide)), Nat.div_eq_of_lt hb]
    · have ih := fb_bit j v (by omega) hf
      by_cases q : f j = -2
      · rw [if_pos q]
        obtain ⟨d9, rfl⟩ : ∃ d9, j = v + 1 + d9 := ⟨j - v - 1, by omega⟩
        rw [show (2 : Nat) ^ (v + 1 + d9) = 2 ^ v * (2 * 2 ^ d9) by rw [Nat.pow_add, Nat.pow_succ]; rw [Nat.mul_assoc], Nat.add_mul_div_left _ _ (Nat.pow_pos (by decide)), Nat.add_mul_mod_self_left]
        exact ih
      · rw [if_neg q]; exact ih
theorem pl_dec : ∀ x : Nat, x < 1024 → ∀ v : Nat, v < 10 → x / 2 ^ v % 2 = 1 → 1 ≤ pcT (x : Int) ∧ -2 ≤ lbT (x : Int) ∧ lbT (x : Int) ≤ v ∧ pcT (x : Int) ≤ 10 := by decide +kernel
variable {rod : Nat} {qd : Nat} {f9 : Nat → Int32}
set_option maxHeartbeats 4000000 in
set_option maxRecDepth 20000 in
theorem LW_book (hx : p.tables.exec = Jvm.exec) (hb : c.code = cL_law) (hml : c.maxLocals = 21) (hown : s.vm.findClass RL = some m.cls) (hts : ∀ w ∈ xTB, w.before args s = true) (hK : va_K D vwCl (xtyL cy) s) (hN : jN mi s) (hZ : jZ zE zc ad A s s.heap) (hX : va_X b L xs s s.heap) (hbl : b < s.heap.size) (hbA : ¬ A b) (hNs : nS s) (hEx : xEx z A s s.heap) (hA : ∀ q, s.heap.size ≤ q → A q) (hI : xI xtb a) (hR : 100 ≤ R.frames ∧ 4000 ≤ R.locals ∧ 600000 ≤ R.cells ∧ 7302250 ≤ R.slots) (hL : L ≤ 1000) (hF : nF s) (hh : ∀ j : Nat, j < 6 → fh j = ki (hgS L xs j)) (hdm : ∀ j : Nat, j < 30 → fd j = ki (nuS L xs j 0)) (hsl : ∀ j : Nat, j < 30 → fs j = ki (nuS L xs j 3)) (hw9 : isL cy zE ad y (csI L xs 30) w) (hE : bE L xs η) (hB : BX η gn S) (hi : iX η S) (hkn : k ≤ R.cells ∧ n ≤ R.slots) (hne : ¬ (csI L xs 30).length = 0 → rod ∈ csI L xs 30 ∧ ∀ j : Nat, j < 9 → f9 j = ki (daysN gn j η 4 (rod : Int))) (kk : ∀ (S : xSt) (hB : BX η gn S) (hi : iX η S) (H : Heap) (locs : List Loc) (ls : Array Slot), lv_has ls 21 [(0, .ref b), (1, .ref (a 0)), (2, .ref z0), (3, .ref y)] → va_P D vwCl (List.flatten [[(z0, .inr (12, [.ref b, .ref q1, .ref q2, .ref q3, .ref q4, .ref q5, .ref q6, .ref q7])), (q1, .inl (cy 0, 6, .inl fh)), (q2, .inl (cy 0, 30, .inl fd)), (q4, .inl (cy 0, 30, .inl fs))], w, xW cy xtb a S]) H → va_D A (List.flatten [[(z0, .inr (12, [.ref b, .ref q1, .ref q2, .ref q3, .ref q4, .ref q5, .ref q6, .ref q7])), (q1, .inl (cy 0, 6, .inl fh)), (q2, .inl (cy 0, 30, .inl fd)), (q4, .inl (cy 0, 30, .inl fs))], w, xW cy xtb a S]) → va_S A s.heap H locs → W p l e R s m args below meth c H locs k n Q (F0 m 432 ls [])) {H : Heap} {locs : List Loc} {ls : Array Slot} (hl : lv_has ls 21 [(0, .ref b), (1, .ref (a 0)), (2, .ref z0), (3, .ref y), (5, .int (ki (rod : Int))), (6, .ref qd)]) (hP : va_P D vwCl (List.flatten [[(z0, .inr (12, [.ref b, .ref q1, .ref q2, .ref q3, .ref q4, .ref q5, .ref q6, .ref q7])), (q1, .inl (cy 0, 6, .inl fh)), (q2, .inl (cy 0, 30, .inl fd)), (q4, .inl (cy 0, 30, .inl fs))], [(qd, .inl (cy 0, 9, .inl f9))], w, xW cy xtb a S]) H) (hD : va_D A (List.flatten [[(z0, .inr (12, [.ref b, .ref q1, .ref q2, .ref q3, .ref q4, .ref q5, .ref q6, .ref q7])), (q1, .inl (cy 0, 6, .inl fh)), (q2, .inl (cy 0, 30, .inl fd)), (q4, .inl (cy 0, 30, .inl fs))], [(qd, .inl (cy 0, 9, .inl f9))], w, xW cy xtb a S])) (hS : va_S A s.heap H locs) : W p l e R s m args below meth c H locs k n Q (F0 m 305 ls []) := by
  by_cases hem : (csI L xs 30).length = 0
  · refine lv_aload_n hx hb dL_law_305 rfl (lv_at hl 3 rfl) ?_
    have hPc := blk_P (bs := ([[(z0, .inr (12, [.ref b, .ref q1, .ref q2, .ref q3, .ref q4, .ref q5, .ref q6, .ref q7])), (q1, .inl (cy 0, 6, .inl fh)), (q2, .inl (cy 0, 30, .inl fd)), (q4, .inl (cy 0, 30, .inl fs))], [(qd, .inl (cy 0, 9, .inl f9))], w, xW cy xtb a S] : List va_W)) (rs := ([[(z0, .inr (12, [.ref b, .ref q1, .ref q2, .ref q3, .ref q4, .ref q5, .ref q6, .ref q7])), (q1, .inl (cy 0, 6, .inl fh)), (q2, .inl (cy 0, 30, .inl fd)), (q4, .inl (cy 0, 30, .inl fs))], [(qd, .inl (cy 0, 9, .inl f9))], xW cy xtb a S] : List va_W)) (x := w) 2 rfl rfl hP
    have hDc := blk_D (bs := ([[(z0, .inr (12, [.ref b, .ref q1, .ref q2, .ref q3, .ref q4, .ref q5, .ref q6, .ref q7])), (q1, .inl (cy 0, 6, .inl fh)), (q2, .inl (cy 0, 30, .inl fd)), (q4, .inl (cy 0, 30, .inl fs))], [(qd, .inl (cy 0, 9, .inl f9))], w, xW cy xtb a S] : List va_W)) (rs := ([[(z0, .inr (12, [.ref b, .ref q1, .ref q2, .ref q3, .ref q4, .ref q5, .ref q6, .ref q7])), (q1, .inl (cy 0, 6, .inl fh)), (q2, .inl (cy 0, 30, .inl fd)), (q4, .inl (cy 0, 30, .inl fs))], [(qd, .inl (cy 0, 9, .inl f9))], xW cy xtb a S] : List va_W)) (x := w) 2 rfl rfl hD
    refine lk_isEmpty hx hb hml hown hts hK hN hZ hS hA hl.1 (Nat.le_of_ble_eq_true (rfl)) (rest := []) (⟨xw_mem 1071 (by decide +kernel) rfl, xw_mem 46 (by decide +kernel) rfl, xw_mem 1068 (by decide +kernel) rfl, by decide +kernel⟩ : xML RL 87 yJx4a65c_isEmpty_aae02 cJx4a65c_isEmpty_aae02 1 (some .boolean) 0) hw9 hPc hDc ⟨by omega, by omega⟩ ⟨by omega, by omega⟩ dL_law_306 (fun  H locs hPn hDn hS => ?_)
    have hP := blk_P2 (bs := ([[(z0, .inr (12, [.ref b, .ref q1, .ref q2, .ref q3, .ref q4, .ref q5, .ref q6, .ref q7])), (q1, .inl (cy 0, 6, .inl fh)), (q2, .inl (cy 0, 30, .inl fd)), (q4, .inl (cy 0, 30, .inl fs))], [(qd, .inl (cy 0, 9, .inl f9))], w, xW cy xtb a S] : List va_W)) (rs := ([[(z0, .inr (12, [.ref b, .ref q1, .ref q2, .ref q3, .ref q4, .ref q5, .ref q6, .ref q7])), (q1, .inl (cy 0, 6, .inl fh)), (q2, .inl (cy 0, 30, .inl fd)), (q4, .inl (cy 0, 30, .inl fs))], [(qd, .inl (cy 0, 9, .inl f9))], xW cy xtb a S] : List va_W)) (x := w) 2 rfl rfl hPn
    have hD := blk_D2 (bs := ([[(z0, .inr (12, [.ref b, .ref q1, .ref q2, .ref q3, .ref q4, .ref q5, .ref q6, .ref q7])), (q1, .inl (cy 0, 6, .inl fh)), (q2, .inl (cy 0, 30, .inl fd)), (q4, .inl (cy 0, 30, .inl fs))], [(qd, .inl (cy 0, 9, .inl f9))], w, xW cy xtb a S] : List va_W)) (rs := ([[(z0, .inr (12, [.ref b, .ref q1, .ref q2, .ref q3, .ref q4, .ref q5, .ref q6, .ref q7])), (q1, .inl (cy 0, 6, .inl fh)), (q2, .inl (cy 0, 30, .inl fd)), (q4, .inl (cy 0, 30, .inl fs))], [(qd, .inl (cy 0, 9, .inl f9))], xW cy xtb a S] : List va_W)) (x := w) 2 rfl rfl hDn
    rw [show bi ((csI L xs 30).length = 0) = 1 from if_pos hem]
    refine kv_if_ne_t (tgt := 432) hx hb (by omega) (by omega) (by omega) dL_law_309 (by decide) ?_
    have hP := drp_P (bs := ([[(z0, .inr (12, [.ref b, .ref q1, .ref q2, .ref q3, .ref q4, .ref q5, .ref q6, .ref q7])), (q1, .inl (cy 0, 6, .inl fh)), (q2, .inl (cy 0, 30, .inl fd)), (q4, .inl (cy 0, 30, .inl fs))], [(qd, .inl (cy 0, 9, .inl f9))], w, xW cy xtb a S] : List va_W)) (rs := ([[(z0, .inr (12, [.ref b, .ref q1, .ref q2, .ref q3, .ref q4, .ref q5, .ref q6, .ref q7])), (q1, .inl (cy 0, 6, .inl fh)), (q2, .inl (cy 0, 30, .inl fd)), (q4, .inl (cy 0, 30, .inl fs))], w, xW cy xtb a S] : List va_W)) (x := [(qd, .inl (cy 0, 9, .inl f9))]) 1 rfl rfl hP
    have hD := drp_D (bs := ([[(z0, .inr (12, [.ref b, .ref q1, .ref q2, .ref q3, .ref q4, .ref q5, .ref q6, .ref q7])), (q1, .inl (cy 0, 6, .inl fh)), (q2, .inl (cy 0, 30, .inl fd)), (q4, .inl (cy 0, 30, .inl fs))], [(qd, .inl (cy 0, 9, .inl f9))], w, xW cy xtb a S] : List va_W)) (rs := ([[(z0, .inr (12, [.ref b, .ref q1, .ref q2, .ref q3, .ref q4, .ref q5, .ref q6, .ref q7])), (q1, .inl (cy 0, 6, .inl fh)), (q2, .inl (cy 0, 30, .inl fd)), (q4, .inl (cy 0, 30, .inl fs))], w, xW cy xtb a S] : List va_W)) (x := [(qd, .inl (cy 0, 9, .inl f9))]) 1 rfl rfl hD
    exact kk S hB hi H _ ls (lv_sub hl [0, 1, 2, 3] rfl) hP hD hS
  · obtain ⟨hrod9, hdays9⟩ := hne hem
    have hrod : hasS η (rod : Int) := cs_has hE hrod9
    have hlen : 1 ≤ (csI L xs 30).length ∧ (csI L xs 30).length ≤ 30 := ⟨by omega, csI_len L xs 30⟩
    refine lv_aload_n hx hb dL_law_305 rfl (lv_at hl 3 rfl) ?_
    have hPc := blk_P (bs := ([[(z0, .inr (12, [.ref b, .ref q1, .ref q2, .ref q3, .ref q4, .ref q5, .ref q6, .ref q7])), (q1, .inl (cy 0, 6, .inl fh)), (q2, .inl (cy 0, 30, .inl fd)), (q4, .inl (cy 0, 30, .inl fs))], [(qd, .inl (cy 0, 9, .inl f9))], w, xW cy xtb a S] : List va_W)) (rs := ([[(z0, .inr (12, [.ref b, .ref q1, .ref q2, .ref q3, .ref q4, .ref q5, .ref q6, .ref q7])), (q1, .inl (cy 0, 6, .inl fh)), (q2, .inl (cy 0, 30, .inl fd)), (q4, .inl (cy 0, 30, .inl fs))], [(qd, .inl (cy 0, 9, .inl f9))], xW cy xtb a S] : List va_W)) (x := w) 2 rfl rfl hP
    have hDc := blk_D (bs := ([[(z0, .inr (12, [.ref b, .ref q1, .ref q2, .ref q3, .ref q4, .ref q5, .ref q6, .ref q7])), (q1, .inl (cy 0, 6, .inl fh)), (q2, .inl (cy 0, 30, .inl fd)), (q4, .inl (cy 0, 30, .inl fs))], [(qd, .inl (cy 0, 9, .inl f9))], w, xW cy xtb a S] : List va_W)) (rs := ([[(z0, .inr (12, [.ref b, .ref q1, .ref q2, .ref q3, .ref q4, .ref q5, .ref q6, .ref q7])), (q1, .inl (cy 0, 6, .inl fh)), (q2, .inl (cy 0, 30, .inl fd)), (q4, .inl (cy 0, 30, .inl fs))], [(qd, .inl (cy 0, 9, .inl f9))], xW cy xtb a S] : List va_W)) (x := w) 2 rfl rfl hD
    refine lk_isEmpty hx hb hml hown hts hK hN hZ hS hA hl.1 (Nat.le_of_ble_eq_true (rfl)) (rest := []) (⟨xw_mem 1071 (by decide +kernel) rfl, xw_mem 46 (by decide +kernel) rfl, xw_mem 1068 (by decide +kernel) rfl, by decide +kernel⟩ : xML RL 87 yJx4a65c_isEmpty_aae02 cJx4a65c_isEmpty_aae02 1 (some .boolean) 0) hw9 hPc hDc ⟨by omega, by omega⟩ ⟨by omega, by omega⟩ dL_law_306 (fun  H locs hPn hDn hS => ?_)
    have hP := blk_P2 (bs := ([[(z0, .inr (12, [.ref b, .ref q1, .ref q2, .ref q3, .ref q4, .ref q5, .ref q6, .ref q7])), (q1, .inl (cy 0, 6, .inl fh)), (q2, .inl (cy 0, 30, .inl fd)), (q4, .inl (cy 0, 30, .inl fs))], [(qd, .inl (cy 0, 9, .inl f9))], w, xW cy xtb a S] : List va_W)) (rs := ([[(z0, .inr (12, [.ref b, .ref q1, .ref q2, .ref q3, .ref q4, .ref q5, .ref q6, .ref q7])), (q1, .inl (cy 0, 6, .inl fh)), (q2, .inl (cy 0, 30, .inl fd)), (q4, .inl (cy 0, 30, .inl fs))], [(qd, .inl (cy 0, 9, .inl f9))], xW cy xtb a S] : List va_W)) (x := w) 2 rfl rfl hPn
    have hD := blk_D2 (bs := ([[(z0, .inr (12, [.ref b, .ref q1, .ref q2, .ref q3, .ref q4, .ref q5, .ref q6, .ref q7])), (q1, .inl (cy 0, 6, .inl fh)), (q2, .inl (cy 0, 30, .inl fd)), (q4, .inl (cy 0, 30, .inl fs))], [(qd, .inl (cy 0, 9, .inl f9))], w, xW cy xtb a S] : List va_W)) (rs := ([[(z0, .inr (12, [.ref b, .ref q1, .ref q2, .ref q3, .ref q4, .ref q5, .ref q6, .ref q7])), (q1, .inl (cy 0, 6, .inl fh)), (q2, .inl (cy 0, 30, .inl fd)), (q4, .inl (cy 0, 30, .inl fs))], [(qd, .inl (cy 0, 9, .inl f9))], xW cy xtb a S] : List va_W)) (x := w) 2 rfl rfl hDn
    rw [show bi ((csI L xs 30).length = 0) = 0 from if_neg hem]
    refine kv_if_ne_f (tgt := 432) hx hb (by omega) (by omega) (by omega) dL_law_309 (by decide) ?_
    refine lv_aload_n hx hb dL_law_312 rfl (lv_at hl 1 rfl) ?_
    refine lv_iconst (v := ki 0) hx hb dL_law_313 rfl ?_
    refine lv_aload hx hb dL_law_314 (lv_at hl 5 rfl) ?_
    have hPc := xP_perm hP (blk2_perm (bs := ([[(z0, .inr (12, [.ref b, .ref q1, .ref q2, .ref q3, .ref q4, .ref q5, .ref q6, .ref q7])), (q1, .inl (cy 0, 6, .inl fh)), (q2, .inl (cy 0, 30, .inl fd)), (q4, .inl (cy 0, 30, .inl fs))], [(qd, .inl (cy 0, 9, .inl f9))], w, xW cy xtb a S] : List va_W)) (r1 := ([[(z0, .inr (12, [.ref b, .ref q1, .ref q2, .ref q3, .ref q4, .ref q5, .ref q6, .ref q7])), (q1, .inl (cy 0, 6, .inl fh)), (q2, .inl (cy 0, 30, .inl fd)), (q4, .inl (cy 0, 30, .inl fs))], [(qd, .inl (cy 0, 9, .inl f9))], w] : List va_W)) (rs := ([[(z0, .inr (12, [.ref b, .ref q1, .ref q2, .ref q3, .ref q4, .ref q5, .ref q6, .ref q7])), (q1, .inl (cy 0, 6, .inl fh)), (q2, .inl (cy 0, 30, .inl fd)), (q4, .inl (cy 0, 30, .inl fs))], w] : List va_W)) (x := [(qd, .inl (cy 0, 9, .inl f9))]) (y := xW cy xtb a S) 3 1 rfl rfl rfl rfl)
    have hDc := xD_perm hD (blk2_perm (bs := ([[(z0, .inr (12, [.ref b, .ref q1, .ref q2, .ref q3, .ref q4, .ref q5, .ref q6, .ref q7])), (q1, .inl (cy 0, 6, .inl fh)), (q2, .inl (cy 0, 30, .inl fd)), (q4, .inl (cy 0, 30, .inl fs))], [(qd, .inl (cy 0, 9, .inl f9))], w, xW cy xtb a S] : List va_W)) (r1 := ([[(z0, .inr (12, [.ref b, .ref q1, .ref q2, .ref q3, .ref q4, .ref q5, .ref q6, .ref q7])), (q1, .inl (cy 0, 6, .inl fh)), (q2, .inl (cy 0, 30, .inl fd)), (q4, .inl (cy 0, 30, .inl fs))], [(qd, .inl (cy 0, 9, .inl f9))], w] : List va_W)) (rs := ([[(z0, .inr (12, [.ref b, .ref q1, .ref q2, .ref q3, .ref q4, .ref q5, .ref q6, .ref q7])), (q1, .inl (cy 0, 6, .inl fh)), (q2, .inl (cy 0, 30, .inl fd)), (q4, .inl (cy 0, 30, .inl fs))], w] : List va_W)) (x := [(qd, .inl (cy 0, 9, .inl f9))]) (y := xW cy xtb a S) 3 1 rfl rfl rfl rfl)
    refine kc_Si (n := 3) hx hb hml hown hts (⟨xw_mem 1032 (by decide +kernel) rfl, xw_mem 29 (by decide +kernel) rfl, xw_mem 1030 (by decide +kernel) rfl, by decide +kernel⟩ : xML RL 117 yL_put cL_put 4 (some .boolean) 3) (xw_mem 1031 (by decide +kernel) rfl) (wc := List.flatten [[(qd, .inl (cy 0, 9, .inl f9))], xW cy xtb a S]) hPc hDc hS hA [.ref (a 0), .int (ki 0), .ref qd] (rest := []) _ _ (c_L_put (S := S) (r := 0) (N := 9) (by omega) (by omega) (g := fun z => daysN gn z.toNat η 4 (rod : Int)) (fun j hj => hdays9 j hj) (fun z z0 z1 => by have h9 := (wf_days (gn := gn) hB.1 z.toNat).2.2.2.1 (rod : Int); show -128 ≤ daysN gn z.toNat η 4 (rod : Int) ∧ daysN gn z.toNat η 4 (rod : Int) < 128; omega) _) gP_bl (fun U hU hW => gP_to (bs := [[(qd, .inl (cy 0, 9, .inl f9))]]) (S := S) hPc hDc hS hA hK hN hZ hX hbl hbA hNs hEx hU hW) ⟨by omega, by omega⟩ (by omega) (by omega) rfl hl.1 rfl (Nat.le_of_ble_eq_true (rfl)) dL_law_316 (fun r9 u t9 H locs ht9 hw hB9 hz hJ hS => ?_)
    subst hw
    obtain ⟨⟨S316, rd⟩, hu⟩ : ∃ v : xSt × (Int → Int), v = u := ⟨u, rfl⟩
    subst hu
    obtain ⟨hsx, hrd, he9, hP1, hD1⟩ := hB9
    dsimp only at hsx hrd he9 hP1 hD1
    rw [ht9] at hP1
    obtain ⟨hPn, hDn⟩ := hJ _ hP1 hD1
    have hB := BX_1 hB he9
    have hi := iX_1 hi he9
    have hP := xP_perm hPn (blk2_perm (bs := ([[(z0, .inr (12, [.ref b, .ref q1, .ref q2, .ref q3, .ref q4, .ref q5, .ref q6, .ref q7])), (q1, .inl (cy 0, 6, .inl fh)), (q2, .inl (cy 0, 30, .inl fd)), (q4, .inl (cy 0, 30, .inl fs))], [(qd, .inl (cy 0, 9, .inl f9))], w, xW cy xtb a S316] : List va_W)) (r1 := ([[(z0, .inr (12, [.ref b, .ref q1, .ref q2, .ref q3, .ref q4, .ref q5, .ref q6, .ref q7])), (q1, .inl (cy 0, 6, .inl fh)), (q2, .inl (cy 0, 30, .inl fd)), (q4, .inl (cy 0, 30, .inl fs))], [(qd, .inl (cy 0, 9, .inl f9))], w] : List va_W)) (rs := ([[(z0, .inr (12, [.ref b, .ref q1, .ref q2, .ref q3, .ref q4, .ref q5, .ref q6, .ref q7])), (q1, .inl (cy 0, 6, .inl fh)), (q2, .inl (cy 0, 30, .inl fd)), (q4, .inl (cy 0, 30, .inl fs))], w] : List va_W)) (x := [(qd, .inl (cy 0, 9, .inl f9))]) (y := xW cy xtb a S316) 3 1 rfl rfl rfl rfl).symm
    have hD := xD_perm hDn (blk2_perm (bs := ([[(z0, .inr (12, [.ref b, .ref q1, .ref q2, .ref q3, .ref q4, .ref q5, .ref q6, .ref q7])), (q1, .inl (cy 0, 6, .inl fh)), (q2, .inl (cy 0, 30, .inl fd)), (q4, .inl (cy 0, 30, .inl fs))], [(qd, .inl (cy 0, 9, .inl f9))], w, xW cy xtb a S316] : List va_W)) (r1 := ([[(z0, .inr (12, [.ref b, .ref q1, .ref q2, .ref q3, .ref q4, .ref q5, .ref q6, .ref q7])), (q1, .inl (cy 0, 6, .inl fh)), (q2, .inl (cy 0, 30, .inl fd)), (q4, .inl (cy 0, 30, .inl fs))], [(qd, .inl (cy 0, 9, .inl f9))], w] : List va_W)) (rs := ([[(z0, .inr (12, [.ref b, .ref q1, .ref q2, .ref q3, .ref q4, .ref q5, .ref q6, .ref q7])), (q1, .inl (cy 0, 6, .inl fh)), (q2, .inl (cy 0, 30, .inl fd)), (q4, .inl (cy 0, 30, .inl fs))], w] : List va_W)) (x := [(qd, .inl (cy 0, 9, .inl f9))]) (y := xW cy xtb a S316) 3 1 rfl rfl rfl rfl).symm
    have hrd9 : ∀ j : Nat, j < 9 → rd j = daysN gn j η 4 (rod : Int) := fun j hj => hrd j (by omega) (by omega)
    have hsx : sX 0 9 rd S316 := hsx
    refine kv_if_eq_f (tgt := 334) hx hb (by omega) (by omega) (by omega) dL_law_319 (by decide) ?_
    refine lv_aload_n hx hb dL_law_322 rfl (lv_at hl 1 rfl) ?_
    refine lv_iconst (v := ki 0) hx hb dL_law_323 rfl ?_
    refine lv_iload hx hb dL_law_324 (lv_at hl 4 rfl) ?_
    obtain ⟨⟨S326, v326⟩, hf326, hq326⟩ := t_judge (S := S316) (s := 0) hB (by omega) hsx (c := (rod : Int)) hrod
    dsimp only at hq326
    obtain ⟨hv9, hf9, hl9⟩ := hq326
    subst hv9
    have hB := BX_q hB hf9 hl9
    have hi := iX_q hi hf9
    have hsx := sX_q hsx hf9
    rw [wd_own hrd9] at hf326
    have hPc := blk_P (bs := ([[(z0, .inr (12, [.ref b, .ref q1, .ref q2, .ref q3, .ref q4, .ref q5, .ref q6, .ref q7])), (q1, .inl (cy 0, 6, .inl fh)), (q2, .inl (cy 0, 30, .inl fd)), (q4, .inl (cy 0, 30, .inl fs))], [(qd, .inl (cy 0, 9, .inl f9))], w, xW cy xtb a S316] : List va_W)) (rs := ([[(z0, .inr (12, [.ref b, .ref q1, .ref q2, .ref q3, .ref q4, .ref q5, .ref q6, .ref q7])), (q1, .inl (cy 0, 6, .inl fh)), (q2, .inl (cy 0, 30, .inl fd)), (q4, .inl (cy 0, 30, .inl fs))], [(qd, .inl (cy 0, 9, .inl f9))], w] : List va_W)) (x := xW cy xtb a S316) 3 rfl rfl hP
    have hDc := blk_D (bs := ([[(z0, .inr (12, [.ref b, .ref q1, .ref q2, .ref q3, .ref q4, .ref q5, .ref q6, .ref q7])), (q1, .inl (cy 0, 6, .inl fh)), (q2, .inl (cy 0, 30, .inl fd)), (q4, .inl (cy 0, 30, .inl fs))], [(qd, .inl (cy 0, 9, .inl f9))], w, xW cy xtb a S316] : List va_W)) (rs := ([[(z0, .inr (12, [.ref b, .ref q1, .ref q2, .ref q3, .ref q4, .ref q5, .ref q6, .ref q7])), (q1, .inl (cy 0, 6, .inl fh)), (q2, .inl (cy 0, 30, .inl fd)), (q4, .inl (cy 0, 30, .inl fs))], [(qd, .inl (cy 0, 9, .inl f9))], w] : List va_W)) (x := xW cy xtb a S316) 3 rfl rfl hD
    refine lw_vi hx hb hml hown hts (K_sub hK) hEx hI hPc hDc hS hA (⟨xw_mem 706 (by decide +kernel) rfl, xw_mem 30 (by decide +kernel) rfl, xw_mem 703 (by decide +kernel) rfl, by decide +kernel⟩ : xML RL 120 yX11_judge cX11_judge 4 (some .int) 2) (xw_mem 704 (by decide +kernel) rfl) (xw_mem 705 (by decide +kernel) rfl) (he := rfl) (by decide) rfl [.int (ki 0), .int (ki (rod : Int))] (rest := []) (c_X11_judge hI hf326 _) ⟨by omega, by omega⟩ ⟨by omega, by omega⟩ rfl hl.1 rfl (Nat.le_of_ble_eq_true (rfl)) dL_law_326 (fun H locs hPn hS => ?_)
    have hDn := xD_st (S' := S326) hDc
    have hP := blk_P2 (bs := ([[(z0, .inr (12, [.ref b, .ref q1, .ref q2, .ref q3, .ref q4, .ref q5, .ref q6, .ref q7])), (q1, .inl (cy 0, 6, .inl fh)), (q2, .inl (cy 0, 30, .inl fd)), (q4, .inl (cy 0, 30, .inl fs))], [(qd, .inl (cy 0, 9, .inl f9))], w, xW cy xtb a S326] : List va_W)) (rs := ([[(z0, .inr (12, [.ref b, .ref q1, .ref q2, .ref q3, .ref q4, .ref q5, .ref q6, .ref q7])), (q1, .inl (cy 0, 6, .inl fh)), (q2, .inl (cy 0, 30, .inl fd)), (q4, .inl (cy 0, 30, .inl fs))], [(qd, .inl (cy 0, 9, .inl f9))], w] : List va_W)) (x := xW cy xtb a S326) 3 rfl rfl hPn
    have hD := blk_D2 (bs := ([[(z0, .inr (12, [.ref b, .ref q1, .ref q2, .ref q3, .ref q4, .ref q5, .ref q6, .ref q7])), (q1, .inl (cy 0, 6, .inl fh)), (q2, .inl (cy 0, 30, .inl fd)), (q4, .inl (cy 0, 30, .inl fs))], [(qd, .inl (cy 0, 9, .inl f9))], w, xW cy xtb a S326] : List va_W)) (rs := ([[(z0, .inr (12, [.ref b, .ref q1, .ref q2, .ref q3, .ref q4, .ref q5, .ref q6, .ref q7])), (q1, .inl (cy 0, 6, .inl fh)), (q2, .inl (cy 0, 30, .inl fd)), (q4, .inl (cy 0, 30, .inl fs))], [(qd, .inl (cy 0, 9, .inl f9))], w] : List va_W)) (x := xW cy xtb a S326) 3 rfl rfl hDn
    refine lv_bipush (v := ki (-2)) hx hb dL_law_329 rfl ?_
    refine kv_icmp_eq_t (tgt := 336) hx hb (by omega) (by omega) (by omega) (by omega) (by omega) dL_law_331 (by decide) ?_
    refine lv_aload_n hx hb dL_law_336 rfl (lv_at hl 3 rfl) ?_
    refine lv_aload_n hx hb dL_law_337 rfl (lv_at hl 0 rfl) ?_
    refine lv_bipush (v := ki 14) hx hb dL_law_338 rfl ?_
    refine lk_pure hx hb hml hown hts hX hbl hbA hS hA (⟨xw_mem 795 (by decide +kernel) rfl, xw_mem 29 (by decide +kernel) rfl, xw_mem 800 (by decide +kernel) rfl, by decide +kernel⟩ : xML RL 17 yL_cell cL_cell 2 (some .int) 2) (xw_mem 794 (by decide +kernel) rfl) (As := [.ref b, .int (ki 14)]) (rest := [.ref y]) (c_L_cell (i := 14) hL (by omega) (by omega) _) ⟨(by omega), (by omega)⟩ ⟨by omega, by omega⟩ rfl hl.1 rfl (Nat.le_of_ble_eq_true (rfl)) dL_law_340 (fun H locs hP9 hS => ?_)
    have hP := hP9 _ _ _ hP
    refine lv_iconst (v := ki 5) hx hb dL_law_343 rfl ?_
    have hc9 := ceS_b (L := L) (xs := xs) (i := 14) (by omega) (by omega)
    refine kv_shr (r := ceS L xs 14 / 32) hx hb 5 rfl (by omega) (by omega) (by omega) rfl dL_law_344 ?_
    refine lv_aload_n hx hb dL_law_345 rfl (lv_at hl 3 rfl) ?_
    have hPc := blk_P (bs := ([[(z0, .inr (12, [.ref b, .ref q1, .ref q2, .ref q3, .ref q4, .ref q5, .ref q6, .ref q7])), (q1, .inl (cy 0, 6, .inl fh)), (q2, .inl (cy 0, 30, .inl fd)), (q4, .inl (cy 0, 30, .inl fs))], [(qd, .inl (cy 0, 9, .inl f9))], w, xW cy xtb a S326] : List va_W)) (rs := ([[(z0, .inr (12, [.ref b, .ref q1, .ref q2, .ref q3, .ref q4, .ref q5, .ref q6, .ref q7])), (q1, .inl (cy 0, 6, .inl fh)), (q2, .inl (cy 0, 30, .inl fd)), (q4, .inl (cy 0, 30, .inl fs))], [(qd, .inl (cy 0, 9, .inl f9))], xW cy xtb a S326] : List va_W)) (x := w) 2 rfl rfl hP
    have hDc := blk_D (bs := ([[(z0, .inr (12, [.ref b, .ref q1, .ref q2, .ref q3, .ref q4, .ref q5, .ref q6, .ref q7])), (q1, .inl (cy 0, 6, .inl fh)), (q2, .inl (cy 0, 30, .inl fd)), (q4, .inl (cy 0, 30, .inl fs))], [(qd, .inl (cy 0, 9, .inl f9))], w, xW cy xtb a S326] : List va_W)) (rs := ([[(z0, .inr (12, [.ref b, .ref q1, .ref q2, .ref q3, .ref q4, .ref q5, .ref q6, .ref q7])), (q1, .inl (cy 0, 6, .inl fh)), (q2, .inl (cy 0, 30, .inl fd)), (q4, .inl (cy 0, 30, .inl fs))], [(qd, .inl (cy 0, 9, .inl f9))], xW cy xtb a S326] : List va_W)) (x := w) 2 rfl rfl hD
    refine lk_size hx hb hml hown hts hK hN hZ hS hA hl.1 (Nat.le_of_ble_eq_true (rfl)) (rest := [.int (ki (ceS L xs 14 / 32)), .ref y]) (⟨xw_mem 1067 (by decide +kernel) rfl, xw_mem 46 (by decide +kernel) rfl, xw_mem 1064 (by decide +kernel) rfl, by decide +kernel⟩ : xML RL 93 yJx4a65c_size_8abf5 cJx4a65c_size_8abf5 1 (some .int) 0) hw9 hPc hDc ⟨by omega, by omega⟩ ⟨by omega, by omega⟩ dL_law_346 (fun  H locs hPn hDn hS => ?_)
    have hP := blk_P2 (bs := ([[(z0, .inr (12, [.ref b, .ref q1, .ref q2, .ref q3, .ref q4, .ref q5, .ref q6, .ref q7])), (q1, .inl (cy 0, 6, .inl fh)), (q2, .inl (cy 0, 30, .inl fd)), (q4, .inl (cy 0, 30, .inl fs))], [(qd, .inl (cy 0, 9, .inl f9))], w, xW cy xtb a S326] : List va_W)) (rs := ([[(z0, .inr (12, [.ref b, .ref q1, .ref q2, .ref q3, .ref q4, .ref q5, .ref q6, .ref q7])), (q1, .inl (cy 0, 6, .inl fh)), (q2, .inl (cy 0, 30, .inl fd)), (q4, .inl (cy 0, 30, .inl fs))], [(qd, .inl (cy 0, 9, .inl f9))], xW cy xtb a S326] : List va_W)) (x := w) 2 rfl rfl hPn
    have hD := blk_D2 (bs := ([[(z0, .inr (12, [.ref b, .ref q1, .ref q2, .ref q3, .ref q4, .ref q5, .ref q6, .ref q7])), (q1, .inl (cy 0, 6, .inl fh)), (q2, .inl (cy 0, 30, .inl fd)), (q4, .inl (cy 0, 30, .inl fs))], [(qd, .inl (cy 0, 9, .inl f9))], w, xW cy xtb a S326] : List va_W)) (rs := ([[(z0, .inr (12, [.ref b, .ref q1, .ref q2, .ref q3, .ref q4, .ref q5, .ref q6, .ref q7])), (q1, .inl (cy 0, 6, .inl fh)), (q2, .inl (cy 0, 30, .inl fd)), (q4, .inl (cy 0, 30, .inl fs))], [(qd, .inl (cy 0, 9, .inl f9))], xW cy xtb a S326] : List va_W)) (x := w) 2 rfl rfl hDn
    obtain ⟨j0, ej0⟩ : ∃ j0 : Nat, ceS L xs 14 / 32 % ((csI L xs 30).length : Int) = (j0 : Int) := ⟨(ceS L xs 14 / 32 % ((csI L xs 30).length : Int)).toNat, by have := Int.emod_nonneg (ceS L xs 14 / 32) (b := ((csI L xs 30).length : Int)) (by omega); omega⟩
    have hj0 : j0 < (csI L xs 30).length := by have := Int.emod_lt_of_pos (ceS L xs 14 / 32) (b := ((csI L xs 30).length : Int)) (by omega); omega
    obtain ⟨ot, hot9⟩ : ∃ ot, (csI L xs 30)[j0]? = some ot := ⟨_, List.getElem?_eq_getElem hj0⟩
    have hot : hasS η (ot : Int) := cs_has hE (List.mem_of_getElem? hot9)
    have hot30 : ot < 30 := by have := hot.2.1; omega
    have hv3 := hE.2.1 (ot : Int) hot.1 hot.2.1 (by rw [← hE.1 _ (by omega) (by omega)]; exact hot.2.2)
    have n0 := nuS_0 (L := L) (xs := xs) (ot : Int)
    have n3 := nuS_3 (L := L) (xs := xs) (ot : Int)
    obtain ⟨v3, ev3⟩ : ∃ v3 : Nat, nuS L xs (ot : Int) 0 = (v3 : Int) := ⟨(nuS L xs (ot : Int) 0).toNat, by omega⟩
    obtain ⟨v6, ev6⟩ : ∃ v6 : Nat, nuS L xs (ot : Int) 3 = (v6 : Int) := ⟨(nuS L xs (ot : Int) 3).toNat, by omega⟩
    have hbb := fbS_b (fun v => wdS gn (dmV η (ot : Int) v) rd 9 (rod : Int) 41 0) 10
    have hbs := fbS_b (fun v => wdS gn (slV η (ot : Int) v) rd 9 (rod : Int) 41 0) 2
    have hb1 := fb_bit (f := fun v => wdS gn (dmV η (ot : Int) v) rd 9 (rod : Int) 41 0) 10 v3 (by omega) (by show wdS gn (dmV η (ot : Int) v3) rd 9 (rod : Int) 41 0 = -2; rw [dmV_own (hv3.1.trans ev3)]; exact wd_own hrd9 _ _)
    have hb2 := fb_bit (f := fun v => wdS gn (slV η (ot : Int) v) rd 9 (rod : Int) 41 0) 2 v6 (by omega) (by show wdS gn (slV η (ot : Int) v6) rd 9 (rod : Int) 41 0 = -2; rw [slV_own (hv3.2.trans ev6)]; exact wd_own hrd9 _ _)
    have hpl := pl_dec _ hbb v3 (by omega) hb1
    refine kv_rem (r := (j0 : Int)) hx hb (by omega) (by omega) (by omega) (by omega) (by omega) dL_law_349 ?_
    have hPc := blk_P (bs := ([[(z0, .inr (12, [.ref b, .ref q1, .ref q2, .ref q3, .ref q4, .ref q5, .ref q6, .ref q7])), (q1, .inl (cy 0, 6, .inl fh)), (q2, .inl (cy 0, 30, .inl fd)), (q4, .inl (cy 0, 30, .inl fs))], [(qd, .inl (cy 0, 9, .inl f9))], w, xW cy xtb a S326] : List va_W)) (rs := ([[(z0, .inr (12, [.ref b, .ref q1, .ref q2, .ref q3, .ref q4, .ref q5, .ref q6, .ref q7])), (q1, .inl (cy 0, 6, .inl fh)), (q2, .inl (cy 0, 30, .inl fd)), (q4, .inl (cy 0, 30, .inl fs))], [(qd, .inl (cy 0, 9, .inl f9))], xW cy xtb a S326] : List va_W)) (x := w) 2 rfl rfl hP
    have hDc := blk_D (bs := ([[(z0, .inr (12, [.ref b, .ref q1, .ref q2, .ref q3, .ref q4, .ref q5, .ref q6, .ref q7])), (q1, .inl (cy 0, 6, .inl fh)), (q2, .inl (cy 0, 30, .inl fd)), (q4, .inl (cy 0, 30, .inl fs))], [(qd, .inl (cy 0, 9, .inl f9))], w, xW cy xtb a S326] : List va_W)) (rs := ([[(z0, .inr (12, [.ref b, .ref q1, .ref q2, .ref q3, .ref q4, .ref q5, .ref q6, .ref q7])), (q1, .inl (cy 0, 6, .inl fh)), (q2, .inl (cy 0, 30, .inl fd)), (q4, .inl (cy 0, 30, .inl fs))], [(qd, .inl (cy 0, 9, .inl f9))], xW cy xtb a S326] : List va_W)) (x := w) 2 rfl rfl hD
    refine lk_get hx hb hml hown hts hK hN hZ hS hA hl.1 (Nat.le_of_ble_eq_true (rfl)) (rest := []) (⟨xw_mem 1075 (by decide +kernel) rfl, xw_mem 46 (by decide +kernel) rfl, xw_mem 1072 (by decide +kernel) rfl, by decide +kernel⟩ : xML RL 96 yJx4a65c_get_915e3 cJx4a65c_get_915e3 2 (some (.object "java/lang/Object")) 1) hw9 hot9 hPc hDc ⟨by omega, by omega⟩ ⟨by omega, by omega⟩ dL_law_350 (fun  H locs hPn hDn hS => ?_)
    have hP := blk_P2 (bs := ([[(z0, .inr (12, [.ref b, .ref q1, .ref q2, .ref q3, .ref q4, .ref q5, .ref q6, .ref q7])), (q1, .inl (cy 0, 6, .inl fh)), (q2, .inl (cy 0, 30, .inl fd)), (q4, .inl (cy 0, 30, .inl fs))], [(qd, .inl (cy 0, 9, .inl f9))], w, xW cy xtb a S326] : List va_W)) (rs := ([[(z0, .inr (12, [.ref b, .ref q1, .ref q2, .ref q3, .ref q4, .ref q5, .ref q6, .ref q7])), (q1, .inl (cy 0, 6, .inl fh)), (q2, .inl (cy 0, 30, .inl fd)), (q4, .inl (cy 0, 30, .inl fs))], [(qd, .inl (cy 0, 9, .inl f9))], xW cy xtb a S326] : List va_W)) (x := w) 2 rfl rfl hPn
    have hD := blk_D2 (bs := ([[(z0, .inr (12, [.ref b, .ref q1, .ref q2, .ref q3, .ref q4, .ref q5, .ref q6, .ref q7])), (q1, .inl (cy 0, 6, .inl fh)), (q2, .inl (cy 0, 30, .inl fd)), (q4, .inl (cy 0, 30, .inl fs))], [(qd, .inl (cy 0, 9, .inl f9))], w, xW cy xtb a S326] : List va_W)) (rs := ([[(z0, .inr (12, [.ref b, .ref q1, .ref q2, .ref q3, .ref q4, .ref q5, .ref q6, .ref q7])), (q1, .inl (cy 0, 6, .inl fh)), (q2, .inl (cy 0, 30, .inl fd)), (q4, .inl (cy 0, 30, .inl fs))], [(qd, .inl (cy 0, 9, .inl f9))], xW cy xtb a S326] : List va_W)) (x := w) 2 rfl rfl hDn
    refine lk_unbox hx hb hml hown hts hK hN hZ hS hA hl.1 (Nat.le_of_ble_eq_true (rfl)) (rest := []) (⟨xw_mem 1056 (by decide +kernel) rfl, xw_mem 48 (by decide +kernel) rfl, xw_mem 1053 (by decide +kernel) rfl, by decide +kernel⟩ : xML RL 102 yJ6_intValue_8abf5 cJ6_intValue_8abf5 1 (some .int) 0) (hts _ (xw_mem 1134 (by decide +kernel) rfl)) (v := ot) (by omega) hD hP ⟨by omega, by omega⟩ ⟨by omega, by omega⟩ dL_law_353 dL_law_356 (fun H locs hP hD hS => ?_)
    refine lv_istore (lv' := [(7, .int (ki (ot : Int))), (0, .ref b), (1, .ref (a 0)), (2, .ref z0), (3, .ref y), (5, .int (ki (rod : Int))), (6, .ref qd)]) hx hb dL_law_359 hl (by decide) rfl (fun ls hl => ?_)
    refine lv_aload_n hx hb dL_law_361 rfl (lv_at hl 2 rfl) ?_
    refine lv_iconst (v := ki 0) hx hb dL_law_362 rfl ?_
    refine lv_bipush (v := ki 100) hx hb dL_law_363 rfl ?_
    refine lv_iload hx hb dL_law_365 (lv_at hl 5 rfl) ?_
    refine kv_mul (r := 100 * (rod : Int)) hx hb rfl dL_law_367 ?_
    refine lv_iload hx hb dL_law_368 (lv_at hl 0 rfl) ?_
    refine kv_add (r := (100 * (rod : Int)) + (ot : Int)) hx hb rfl dL_law_370 ?_
    refine lv_iconst (v := ki 0) hx hb dL_law_371 rfl ?_
    obtain ⟨⟨S372, v372⟩, hf372, hq372⟩ := t_book (S := S326) (s := 0) hB (by omega) hsx (rod := (rod : Int)) (c := (ot : Int)) (w := 0) hrod hot (by omega) (by omega)
    dsimp only at hq372
    obtain ⟨hv9, hf9, hl9⟩ := hq372
    subst hv9
    have hB := BX_q hB hf9 hl9
    have hi := iX_q hi hf9
    have hsx := sX_q hsx hf9
    rw [if_pos rfl] at hf372
    have hPc := blk_P (bs := ([[(z0, .inr (12, [.ref b, .ref q1, .ref q2, .ref q3, .ref q4, .ref q5, .ref q6, .ref q7])), (q1, .inl (cy 0, 6, .inl fh)), (q2, .inl (cy 0, 30, .inl fd)), (q4, .inl (cy 0, 30, .inl fs))], [(qd, .inl (cy 0, 9, .inl f9))], w, xW cy xtb a S326] : List va_W)) (rs := ([[(z0, .inr (12, [.ref b, .ref q1, .ref q2, .ref q3, .ref q4, .ref q5, .ref q6, .ref q7])), (q1, .inl (cy 0, 6, .inl fh)), (q2, .inl (cy 0, 30, .inl fd)), (q4, .inl (cy 0, 30, .inl fs))], [(qd, .inl (cy 0, 9, .inl f9))], w] : List va_W)) (x := xW cy xtb a S326) 3 rfl rfl hP
    have hDc := blk_D (bs := ([[(z0, .inr (12, [.ref b, .ref q1, .ref q2, .ref q3, .ref q4, .ref q5, .ref q6, .ref q7])), (q1, .inl (cy 0, 6, .inl fh)), (q2, .inl (cy 0, 30, .inl fd)), (q4, .inl (cy 0, 30, .inl fs))], [(qd, .inl (cy 0, 9, .inl f9))], w, xW cy xtb a S326] : List va_W)) (rs := ([[(z0, .inr (12, [.ref b, .ref q1, .ref q2, .ref q3, .ref q4, .ref q5, .ref q6, .ref q7])), (q1, .inl (cy 0, 6, .inl fh)), (q2, .inl (cy 0, 30, .inl fd)), (q4, .inl (cy 0, 30, .inl fs))], [(qd, .inl (cy 0, 9, .inl f9))], w] : List va_W)) (x := xW cy xtb a S326) 3 rfl rfl hD
    refine lw_vi hx hb hml hown hts (K_sub hK) hEx hI hPc hDc hS hA (⟨xw_mem 721 (by decide +kernel) rfl, xw_mem 30 (by decide +kernel) rfl, xw_mem 718 (by decide +kernel) rfl, by decide +kernel⟩ : xML RL 123 yX11_book cX11_book 6 (some .int) 3) (xw_mem 719 (by decide +kernel) rfl) (xw_mem 720 (by decide +kernel) rfl) (he := rfl) (by decide) rfl [.int (ki 0), .int (ki ((100 * (rod : Int)) + (ot : Int))), .int (ki 0)] (rest := []) (c_X11_book hI hf372 _) ⟨by omega, by omega⟩ ⟨by omega, by omega⟩ rfl hl.1 rfl (Nat.le_of_ble_eq_true (rfl)) dL_law_372 (fun H locs hPn hS => ?_)
    have hDn := xD_st (S' := S372) hDc
    have hP := blk_P2 (bs := ([[(z0, .inr (12, [.ref b, .ref q1, .ref q2, .ref q3, .ref q4, .ref q5, .ref q6, .ref q7])), (q1, .inl (cy 0, 6, .inl fh)), (q2, .inl (cy 0, 30, .inl fd)), (q4, .inl (cy 0, 30, .inl fs))], [(qd, .inl (cy 0, 9, .inl f9))], w, xW cy xtb a S372] : List va_W)) (rs := ([[(z0, .inr (12, [.ref b, .ref q1, .ref q2, .ref q3, .ref q4, .ref q5, .ref q6, .ref q7])), (q1, .inl (cy 0, 6, .inl fh)), (q2, .inl (cy 0, 30, .inl fd)), (q4, .inl (cy 0, 30, .inl fs))], [(qd, .inl (cy 0, 9, .inl f9))], w] : List va_W)) (x := xW cy xtb a S372) 3 rfl rfl hPn
    have hD := blk_D2 (bs := ([[(z0, .inr (12, [.ref b, .ref q1, .ref q2, .ref q3, .ref q4, .ref q5, .ref q6, .ref q7])), (q1, .inl (cy 0, 6, .inl fh)), (q2, .inl (cy 0, 30, .inl fd)), (q4, .inl (cy 0, 30, .inl fs))], [(qd, .inl (cy 0, 9, .inl f9))], w, xW cy xtb a S372] : List va_W)) (rs := ([[(z0, .inr (12, [.ref b, .ref q1, .ref q2, .ref q3, .ref q4, .ref q5, .ref q6, .ref q7])), (q1, .inl (cy 0, 6, .inl fh)), (q2, .inl (cy 0, 30, .inl fd)), (q4, .inl (cy 0, 30, .inl fs))], [(qd, .inl (cy 0, 9, .inl f9))], w] : List va_W)) (x := xW cy xtb a S372) 3 rfl rfl hDn
    refine lv_iconst (v := ki 1) hx hb dL_law_375 rfl ?_
    refine kv_icmp_lt_f (tgt := 430) hx hb (by omega) (by omega) (by omega) (by omega) (by omega) dL_law_376 (by decide) ?_
    refine lv_aload_n hx hb dL_law_379 rfl (lv_at hl 2 rfl) ?_
    refine lv_iconst (v := ki 0) hx hb dL_law_380 rfl ?_
    refine lv_bipush (v := ki 100) hx hb dL_law_381 rfl ?_
    refine lv_iload hx hb dL_law_383 (lv_at hl 5 rfl) ?_
    refine kv_mul (r := 100 * (rod : Int)) hx hb rfl dL_law_385 ?_
    refine lv_iload hx hb dL_law_386 (lv_at hl 0 rfl) ?_
    refine kv_add (r := (100 * (rod : Int)) + (ot : Int)) hx hb rfl dL_law_388 ?_
    refine lv_iconst (v := ki 1) hx hb dL_law_389 rfl ?_
    obtain ⟨⟨S390, v390⟩, hf390, hq390⟩ := t_book (S := S372) (s := 0) hB (by omega) hsx (rod := (rod : Int)) (c := (ot : Int)) (w := 1) hrod hot (by omega) (by omega)
    dsimp only at hq390
    obtain ⟨hv9, hf9, hl9⟩ := hq390
    subst hv9
    have hB := BX_q hB hf9 hl9
    have hi := iX_q hi hf9
    have hsx := sX_q hsx hf9
    rw [if_neg (by decide)] at hf390
    have hPc := blk_P (bs := ([[(z0, .inr (12, [.ref b, .ref q1, .ref q2, .ref q3, .ref q4, .ref q5, .ref q6, .ref q7])), (q1, .inl (cy 0, 6, .inl fh)), (q2, .inl (cy 0, 30, .inl fd)), (q4, .inl (cy 0, 30, .inl fs))], [(qd, .inl (cy 0, 9, .inl f9))], w, xW cy xtb a S372] : List va_W)) (rs := ([[(z0, .inr (12, [.ref b, .ref q1, .ref q2, .ref q3, .ref q4, .ref q5, .ref q6, .ref q7])), (q1, .inl (cy 0, 6, .inl fh)), (q2, .inl (cy 0, 30, .inl fd)), (q4, .inl (cy 0, 30, .inl fs))], [(qd, .inl (cy 0, 9, .inl f9))], w] : List va_W)) (x := xW cy xtb a S372) 3 rfl rfl hP
    have hDc := blk_D (bs := ([[(z0, .inr (12, [.ref b, .ref q1, .ref q2, .ref q3, .ref q4, .ref q5, .ref q6, .ref q7])), (q1, .inl (cy 0, 6, .inl fh)), (q2, .inl (cy 0, 30, .inl fd)), (q4, .inl (cy 0, 30, .inl fs))], [(qd, .inl (cy 0, 9, .inl f9))], w, xW cy xtb a S372] : List va_W)) (rs := ([[(z0, .inr (12, [.ref b, .ref q1, .ref q2, .ref q3, .ref q4, .ref q5, .ref q6, .ref q7])), (q1, .inl (cy 0, 6, .inl fh)), (q2, .inl (cy 0, 30, .inl fd)), (q4, .inl (cy 0, 30, .inl fs))], [(qd, .inl (cy 0, 9, .inl f9))], w] : List va_W)) (x := xW cy xtb a S372) 3 rfl rfl hD
    refine lw_vi hx hb hml hown hts (K_sub hK) hEx hI hPc hDc hS hA (⟨xw_mem 721 (by decide +kernel) rfl, xw_mem 30 (by decide +kernel) rfl, xw_mem 718 (by decide +kernel) rfl, by decide +kernel⟩ : xML RL 123 yX11_book cX11_book 6 (some .int) 3) (xw_mem 719 (by decide +kernel) rfl) (xw_mem 720 (by decide +kernel) rfl) (he := rfl) (by decide) rfl [.int (ki 0), .int (ki ((100 * (rod : Int)) + (ot : Int))), .int (ki 1)] (rest := []) (c_X11_book hI hf390 _) ⟨by omega, by omega⟩ ⟨by omega, by omega⟩ rfl hl.1 rfl (Nat.le_of_ble_eq_true (rfl)) dL_law_390 (fun H locs hPn hS => ?_)
    have hDn := xD_st (S' := S390) hDc
    have hP := blk_P2 (bs := ([[(z0, .inr (12, [.ref b, .ref q1, .ref q2, .ref q3, .ref q4, .ref q5, .ref q6, .ref q7])), (q1, .inl (cy 0, 6, .inl fh)), (q2, .inl (cy 0, 30, .inl fd)), (q4, .inl (cy 0, 30, .inl fs))], [(qd, .inl (cy 0, 9, .inl f9))], w, xW cy xtb a S390] : List va_W)) (rs := ([[(z0, .inr (12, [.ref b, .ref q1, .ref q2, .ref q3, .ref q4, .ref q5, .ref q6, .ref q7])), (q1, .inl (cy 0, 6, .inl fh)), (q2, .inl (cy 0, 30, .inl fd)), (q4, .inl (cy 0, 30, .inl fs))], [(qd, .inl (cy 0, 9, .inl f9))], w] : List va_W)) (x := xW cy xtb a S390) 3 rfl rfl hPn
    have hD := blk_D2 (bs := ([[(z0, .inr (12, [.ref b, .ref q1, .ref q2, .ref q3, .ref q4, .ref q5, .ref q6, .ref q7])), (q1, .inl (cy 0, 6, .inl fh)), (q2, .inl (cy 0, 30, .inl fd)), (q4, .inl (cy 0, 30, .inl fs))], [(qd, .inl (cy 0, 9, .inl f9))], w, xW cy xtb a S390] : List va_W)) (rs := ([[(z0, .inr (12, [.ref b, .ref q1, .ref q2, .ref q3, .ref q4, .ref q5, .ref q6, .ref q7])), (q1, .inl (cy 0, 6, .inl fh)), (q2, .inl (cy 0, 30, .inl fd)), (q4, .inl (cy 0, 30, .inl fs))], [(qd, .inl (cy 0, 9, .inl f9))], w] : List va_W)) (x := xW cy xtb a S390) 3 rfl rfl hDn
    refine lv_aload_n hx hb dL_law_393 rfl (lv_at hl 3 rfl) ?_
    refine va_getN (ref := RX12) (host := RL) (D := D) (ci := 12) (v := .ref q2) (C := RX12) (T := TX12) (N := 8) hx hb hts xin_X12 hown hK hP 0 rfl rfl 2 (by decide) (va_Nw.use rfl hF.2.1) (fun _ h9 => h9) rfl dL_law_394 ?_
    refine lv_iload hx hb dL_law_397 (lv_at hl 0 rfl) ?_
    refine kv_ald hx hb hK hP 2 0 rfl rfl (v := nuS L xs (ot : Int) 0) (by omega) (by omega) (by omega) (hdm ot (by omega)) dL_law_399 ?_
    refine kv_icmp_gt_f (tgt := 430) hx hb (by omega) (by omega) (by omega) (by omega) (by omega) dL_law_400 (by decide) ?_
    refine lv_aload_n hx hb dL_law_403 rfl (lv_at hl 2 rfl) ?_
    refine lv_iconst (v := ki 0) hx hb dL_law_404 rfl ?_
    refine lv_bipush (v := ki 100) hx hb dL_law_405 rfl ?_
    refine lv_iload hx hb dL_law_407 (lv_at hl 5 rfl) ?_
    refine kv_mul (r := 100 * (rod : Int)) hx hb rfl dL_law_409 ?_
    refine lv_iload hx hb dL_law_410 (lv_at hl 0 rfl) ?_
    refine kv_add (r := (100 * (rod : Int)) + (ot : Int)) hx hb rfl dL_law_412 ?_
    refine lv_iconst (v := ki 2) hx hb dL_law_413 rfl ?_
    obtain ⟨⟨S414, v414⟩, hf414, hq414⟩ := t_book2 (S := S390) (s := 0) hB (by omega) hsx (rod := (rod : Int)) (c := (ot : Int)) hrod hot
    dsimp only at hq414
    obtain ⟨hv9, hf9, hl9⟩ := hq414
    subst hv9
    have hB := BX_q hB hf9 hl9
    have hi := iX_q hi hf9
    have hPc := blk_P (bs := ([[(z0, .inr (12, [.ref b, .ref q1, .ref q2, .ref q3, .ref q4, .ref q5, .ref q6, .ref q7])), (q1, .inl (cy 0, 6, .inl fh)), (q2, .inl (cy 0, 30, .inl fd)), (q4, .inl (cy 0, 30, .inl fs))], [(qd, .inl (cy 0, 9, .inl f9))], w, xW cy xtb a S390] : List va_W)) (rs := ([[(z0, .inr (12, [.ref b, .ref q1, .ref q2, .ref q3, .ref q4, .ref q5, .ref q6, .ref q7])), (q1, .inl (cy 0, 6, .inl fh)), (q2, .inl (cy 0, 30, .inl fd)), (q4, .inl (cy 0, 30, .inl fs))], [(qd, .inl (cy 0, 9, .inl f9))], w] : List va_W)) (x := xW cy xtb a S390) 3 rfl rfl hP
    have hDc := blk_D (bs := ([[(z0, .inr (12, [.ref b, .ref q1, .ref q2, .ref q3, .ref q4, .ref q5, .ref q6, .ref q7])), (q1, .inl (cy 0, 6, .inl fh)), (q2, .inl (cy 0, 30, .inl fd)), (q4, .inl (cy 0, 30, .inl fs))], [(qd, .inl (cy 0, 9, .inl f9))], w, xW cy xtb a S390] : List va_W)) (rs := ([[(z0, .inr (12, [.ref b, .ref q1, .ref q2, .ref q3, .ref q4, .ref q5, .ref q6, .ref q7])), (q1, .inl (cy 0, 6, .inl fh)), (q2, .inl (cy 0, 30, .inl fd)), (q4, .inl (cy 0, 30, .inl fs))], [(qd, .inl (cy 0, 9, .inl f9))], w] : List va_W)) (x := xW cy xtb a S390) 3 rfl rfl hD
    refine lw_vi hx hb hml hown hts (K_sub hK) hEx hI hPc hDc hS hA (⟨xw_mem 721 (by decide +kernel) rfl, xw_mem 30 (by decide +kernel) rfl, xw_mem 718 (by decide +kernel) rfl, by decide +kernel⟩ : xML RL 123 yX11_book cX11_book 6 (some .int) 3) (xw_mem 719 (by decide +kernel) rfl) (xw_mem 720 (by decide +kernel) rfl) (he := rfl) (by decide) rfl [.int (ki 0), .int (ki ((100 * (rod : Int)) + (ot : Int))), .int (ki 2)] (rest := []) (c_X11_book hI hf414 _) ⟨by omega, by omega⟩ ⟨by omega, by omega⟩ rfl hl.1 rfl (Nat.le_of_ble_eq_true (rfl)) dL_law_414 (fun H locs hPn hS => ?_)
    have hDn := xD_st (S' := S414) hDc
    have hP := blk_P2 (bs := ([[(z0, .inr (12, [.ref b, .ref q1, .ref q2, .ref q3, .ref q4, .ref q5, .ref q6, .ref q7])), (q1, .inl (cy 0, 6, .inl fh)), (q2, .inl (cy 0, 30, .inl fd)), (q4, .inl (cy 0, 30, .inl fs))], [(qd, .inl (cy 0, 9, .inl f9))], w, xW cy xtb a S414] : List va_W)) (rs := ([[(z0, .inr (12, [.ref b, .ref q1, .ref q2, .ref q3, .ref q4, .ref q5, .ref q6, .ref q7])), (q1, .inl (cy 0, 6, .inl fh)), (q2, .inl (cy 0, 30, .inl fd)), (q4, .inl (cy 0, 30, .inl fs))], [(qd, .inl (cy 0, 9, .inl f9))], w] : List va_W)) (x := xW cy xtb a S414) 3 rfl rfl hPn
    have hD := blk_D2 (bs := ([[(z0, .inr (12, [.ref b, .ref q1, .ref q2, .ref q3, .ref q4, .ref q5, .ref q6, .ref q7])), (q1, .inl (cy 0, 6, .inl fh)), (q2, .inl (cy 0, 30, .inl fd)), (q4, .inl (cy 0, 30, .inl fs))], [(qd, .inl (cy 0, 9, .inl f9))], w, xW cy xtb a S414] : List va_W)) (rs := ([[(z0, .inr (12, [.ref b, .ref q1, .ref q2, .ref q3, .ref q4, .ref q5, .ref q6, .ref q7])), (q1, .inl (cy 0, 6, .inl fh)), (q2, .inl (cy 0, 30, .inl fd)), (q4, .inl (cy 0, 30, .inl fs))], [(qd, .inl (cy 0, 9, .inl f9))], w] : List va_W)) (x := xW cy xtb a S414) 3 rfl rfl hDn
    refine lv_aload_n hx hb dL_law_417 rfl (lv_at hl 3 rfl) ?_
    refine va_getN (ref := RX12) (host := RL) (D := D) (ci := 12) (v := .ref q4) (C := RX12) (T := TX12) (N := 8) hx hb hts xin_X12 hown hK hP 0 rfl rfl 4 (by decide) (va_Nw.use rfl hF.2.2) (fun _ h9 => h9) rfl dL_law_418 ?_
    refine lv_iload hx hb dL_law_421 (lv_at hl 0 rfl) ?_
    refine kv_ald hx hb hK hP 3 0 rfl rfl (v := nuS L xs (ot : Int) 3) (by omega) (by omega) (by omega) (hsl ot (by omega)) dL_law_423 ?_
    have hdv := dv_b (x := ((fbS (fun v => wdS gn (slV η (ot : Int) v) rd 9 (rod : Int) 41 0) 2 : Nat) : Int)) (by omega) v6
    refine kv_shr (r := ((fbS (fun v => wdS gn (slV η (ot : Int) v) rd 9 (rod : Int) 41 0) 2 : Nat) : Int) / ((2 ^ v6 : Nat) : Int)) hx hb v6 ev6 (by omega) (by omega) (by omega) rfl dL_law_424 ?_
    refine lv_iconst (v := ki 1) hx hb dL_law_425 rfl ?_
    refine kv_and (r := 1) hx hb 1 rfl (by omega) (by omega) (by omega) (by have q : ((2 ^ v6 : Nat) : Int) = ((2 ^ v6 : Nat) : Int) := rfl; rw [← Int.natCast_ediv]; omega) dL_law_426 ?_
    refine kv_if_ne_t (tgt := 432) hx hb (by omega) (by omega) (by omega) dL_law_427 (by decide) ?_
    have hP := drp_P (bs := ([[(z0, .inr (12, [.ref b, .ref q1, .ref q2, .ref q3, .ref q4, .ref q5, .ref q6, .ref q7])), (q1, .inl (cy 0, 6, .inl fh)), (q2, .inl (cy 0, 30, .inl fd)), (q4, .inl (cy 0, 30, .inl fs))], [(qd, .inl (cy 0, 9, .inl f9))], w, xW cy xtb a S414] : List va_W)) (rs := ([[(z0, .inr (12, [.ref b, .ref q1, .ref q2, .ref q3, .ref q4, .ref q5, .ref q6, .ref q7])), (q1, .inl (cy 0, 6, .inl fh)), (q2, .inl (cy 0, 30, .inl fd)), (q4, .inl (cy 0, 30, .inl fs))], w, xW cy xtb a S414] : List va_W)) (x := [(qd, .inl (cy 0, 9, .inl f9))]) 1 rfl rfl hP
    have hD := drp_D (bs := ([[(z0, .inr (12, [.ref b, .ref q1, .ref q2, .ref q3, .ref q4, .ref q5, .ref q6, .ref q7])), (q1, .inl (cy 0, 6, .inl fh)), (q2, .inl (cy 0, 30, .inl fd)), (q4, .inl (cy 0, 30, .inl fs))], [(qd, .inl (cy 0, 9, .inl f9))], w, xW cy xtb a S414] : List va_W)) (rs := ([[(z0, .inr (12, [.ref b, .ref q1, .ref q2, .ref q3, .ref q4, .ref q5, .ref q6, .ref q7])), (q1, .inl (cy 0, 6, .inl fh)), (q2, .inl (cy 0, 30, .inl fd)), (q4, .inl (cy 0, 30, .inl fs))], w, xW cy xtb a S414] : List va_W)) (x := [(qd, .inl (cy 0, 9, .inl f9))]) 1 rfl rfl hD
    exact kk S414 hB hi H _ ls (lv_sub hl [1, 2, 3, 4] rfl) hP hD hS
end LAW
