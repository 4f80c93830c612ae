/-! part c9: the law's tell and built (made by wip/p45/gen_c9.py) -/
theorem xT_q {t : Int → Int} {T : Int} {S S' : xSt} (h : xT t T S) (e2 : S'.1 2 = S.1 2) (e3 : S'.1 3 = S.1 3) : xT t T S' := ⟨by rw [e2]; exact h.1, fun z z0 z1 => by rw [e3]; exact h.2 z z0 z1⟩
section C9
variable {l : Launch} {D : va_G} {cy : Nat → ClassId} {mi zE zc : Nat} {ad z a : Nat → Nat} {b L : Nat} {xs : Nat → Int32}
section ST
variable {p : Program} {e : Env} {R : Room} {s : State} {m : MethodId} {args : Array Value} {below : List Frame} {meth : Method} {c : Code} {Q : State → Prop} {A : Nat → Prop}
variable {q : Nat} {f : Nat → Int32} {η : Hy} {gn : (Int → Int) → Int}
set_option maxHeartbeats 2000000 in
set_option maxRecDepth 20000 in
theorem ST_L (hx : p.tables.exec = Jvm.exec) (hb : c.code = cL_tell) (hml : c.maxLocals = 4) (hown : s.vm.findClass RL = some m.cls) (hts : ∀ w ∈ xTB, w.before args s = true) (hK : va_K D vwCl (xtyL cy) s) (hN : jN mi s) (hZ : jZ zE zc ad A s s.heap) (hX : va_X b L xs s s.heap) (hbl : b < s.heap.size) (hbA : ¬ A b) (hNs : nS s) (hEx : xEx z A s s.heap) (hA : ∀ q, s.heap.size ≤ q → A q) (hI : xI xtb a) (hR : 8 ≤ R.frames ∧ 400 ≤ R.locals) (hfq : ∀ j : Nat, j < 21 → f j = ki (tx9 j)) (kk : ∀ (S1 : xSt) (hB : BX η gn S1) (ht : xT tx9 (21 : Nat) S1) (H : Heap) (locs : List Loc) (ls : Array Slot), lv_has ls 4 [(0, .ref (a 0)), (1, .ref q), (2, .int (ki 21))] → va_P D vwCl (List.flatten [[(q, .inl (cy 0, 21, .inl f))], xW cy xtb a S1]) H → va_D A (List.flatten [[(q, .inl (cy 0, 21, .inl f))], xW cy xtb a S1]) → va_S A s.heap H locs → W p l e R s m args below meth c H locs 0 0 Q (F0 m 28 ls [])) : ∀ (d i : Nat), i + d = 21 → ∀ (S1 : xSt) (hB : BX η gn S1) (ht : xT tx9 (i : Nat) S1) (H : Heap) (locs : List Loc) (ls : Array Slot), lv_has ls 4 [(3, .int (ki (i : Int))), (0, .ref (a 0)), (1, .ref q), (2, .int (ki 21))] → va_P D vwCl (List.flatten [[(q, .inl (cy 0, 21, .inl f))], xW cy xtb a S1]) H → va_D A (List.flatten [[(q, .inl (cy 0, 21, .inl f))], xW cy xtb a S1]) → va_S A s.heap H locs → W p l e R s m args below meth c H locs 0 0 Q (F0 m 2 ls []) := by
  intro d
  induction d with
  | zero =>
    intro i hi S1 hB ht H locs ls hl hP hD hS
    have hi : i = 21 := by omega
    subst hi
    refine lv_iload_n hx hb dL_tell_2 rfl (lv_at hl 0 rfl) ?_
    refine lv_iload_n hx hb dL_tell_3 rfl (lv_at hl 3 rfl) ?_
    refine kv_icmp_ge_t (tgt := 28) hx hb (by omega) (by omega) (by omega) (by omega) (by omega) dL_tell_4 (by decide) ?_
    exact kk S1 hB ht H _ ls (lv_sub hl [1, 2, 3] rfl) hP hD hS
  | succ d ih =>
    intro i hi S1 hB ht H locs ls hl hP hD hS
    have hti := tx9_ok.2.2 (i : Int) (by omega) (by omega)
    refine lv_iload_n hx hb dL_tell_2 rfl (lv_at hl 0 rfl) ?_
    refine lv_iload_n hx hb dL_tell_3 rfl (lv_at hl 3 rfl) ?_
    refine kv_icmp_ge_f (tgt := 28) hx hb (by omega) (by omega) (by omega) (by omega) (by omega) dL_tell_4 (by decide) ?_
    refine lv_aload_n hx hb dL_tell_7 rfl (lv_at hl 1 rfl) ?_
    refine lv_aload_n hx hb dL_tell_8 rfl (lv_at hl 2 rfl) ?_
    refine lv_iload_n hx hb dL_tell_9 rfl (lv_at hl 0 rfl) ?_
    refine kv_ald hx hb hK hP 0 0 rfl rfl (v := tx9 (i : Int)) (by omega) (by omega) (by omega) (hfq i (by omega)) dL_tell_10 ?_
    obtain ⟨⟨S11, v11⟩, hf11, hq11⟩ := t_feed (S := S1) (t := tx9) (T := (i : Int)) ht (by omega) (by omega) hti.1 hti.2
    dsimp only at hq11
    obtain ⟨hv9, ht, hf9⟩ := hq11
    subst hv9
    have hB := BX_t hB hf9
    have hPc := blk_P (bs := ([[(q, .inl (cy 0, 21, .inl f))], xW cy xtb a S1] : List va_W)) (rs := ([[(q, .inl (cy 0, 21, .inl f))]] : List va_W)) (x := xW cy xtb a S1) 1 rfl rfl hP
    have hDc := blk_D (bs := ([[(q, .inl (cy 0, 21, .inl f))], xW cy xtb a S1] : List va_W)) (rs := ([[(q, .inl (cy 0, 21, .inl f))]] : List va_W)) (x := xW cy xtb a S1) 1 rfl rfl hD
    refine lw_vi hx hb hml hown hts (K_sub hK) hEx hI hPc hDc hS hA (⟨xw_mem 970 (by decide +kernel) rfl, xw_mem 30 (by decide +kernel) rfl, xw_mem 967 (by decide +kernel) rfl, by decide +kernel⟩ : xML RL 7 yX11_feed cX11_feed 2 (some .int) 1) (xw_mem 968 (by decide +kernel) rfl) (xw_mem 969 (by decide +kernel) rfl) (he := rfl) (by decide) rfl [.int (ki (tx9 (i : Int)))] (rest := []) (c_X11_feed hI hf11 _) ⟨by omega, by omega⟩ ⟨by omega, by omega⟩ rfl hl.1 rfl (Nat.le_of_ble_eq_true (rfl)) dL_tell_11 (fun H locs hPn hS => ?_)
    have hDn := xD_st (S' := S11) hDc
    have hP := blk_P2 (bs := ([[(q, .inl (cy 0, 21, .inl f))], xW cy xtb a S11] : List va_W)) (rs := ([[(q, .inl (cy 0, 21, .inl f))]] : List va_W)) (x := xW cy xtb a S11) 1 rfl rfl hPn
    have hD := blk_D2 (bs := ([[(q, .inl (cy 0, 21, .inl f))], xW cy xtb a S11] : List va_W)) (rs := ([[(q, .inl (cy 0, 21, .inl f))]] : List va_W)) (x := xW cy xtb a S11) 1 rfl rfl hDn
    refine lv_iload_n hx hb dL_tell_14 rfl (lv_at hl 0 rfl) ?_
    refine lv_iconst (v := ki 1) hx hb dL_tell_15 rfl ?_
    refine kv_add (r := (i : Int) + 1) hx hb rfl dL_tell_16 ?_
    refine kv_icmp_eq_t (tgt := 22) hx hb (by omega) (by omega) (by omega) (by omega) (by omega) dL_tell_17 (by decide) ?_
    refine lv_iinc (v := ki ((i + 1 : Nat) : Int)) (lv' := [(3, .int (ki ((i + 1 : Nat) : Int))), (0, .ref (a 0)), (1, .ref q), (2, .int (ki 21))]) hx hb dL_tell_22 hl (k := 0) rfl ((ki_add _ _).trans (congrArg ki (by omega))) (by decide) rfl (fun ls hl => ?_)
    refine lv_goto (tgt := 2) hx hb dL_tell_25 (by decide) ?_
    exact ih (i + 1) (by omega) _ hB (by rw [show ((i + 1 : Nat) : Int) = (i : Int) + 1 by omega]; exact ht) H _ ls (lv_sub hl [0, 1, 2, 3] rfl) hP hD hS
end ST
set_option maxHeartbeats 4000000 in
set_option maxRecDepth 20000 in
theorem c_L_tell {q : Nat} {f : Nat → Int32} {S : xSt} {η : Hy} {gn : (Int → Int) → Int} (hfq : ∀ j : Nat, j < 21 → f j = ki (tx9 j)) (hB : BX η gn S) (ht : xT tx9 0 S) (sz : Nat) : Met l yL_tell (Cond.code yL_tell cL_tell 4 (some .boolean) :: xTB) ({ frames := 8, cells := 0, slots := 0, locals := 400 } : Room) (va_Pc [.ref (a 0), .ref q, .int (ki 21)] (gP D cy mi zE zc ad z a b L xs [[(q, .inl (cy 0, 21, .inl f))]] S sz)) (va_Qi (S := xSt) (fun r _ => r = ki 1) (fun u t => BX η gn u ∧ xT tx9 21 u ∧ va_P D vwCl (List.flatten [[(q, .inl (cy 0, 21, .inl f))], xW cy xtb a u]) t.heap ∧ va_D (va_A (List.flatten [[(q, .inl (cy 0, 21, .inl f))], xW cy xtb a S]) sz) (List.flatten [[(q, .inl (cy 0, 21, .inl f))], xW cy xtb a u])) (va_A (List.flatten [[(q, .inl (cy 0, 21, .inl f))], xW cy xtb a S]) sz)) 0 0 (va_A (List.flatten [[(q, .inl (cy 0, 21, .inl f))], xW cy xtb a S]) sz) := by
  refine Met.ofW (cc := cL_tell) (maxL := 4) (ret := (some .boolean)) (by decide) rfl ?_
  intro p e s m args below meth c s₁ B hml hv
  obtain ⟨rfl, ⟨⟨⟨hsz, hP, hK, hD0, hN, hZ⟩, ⟨hbl, hX⟩, hbA0, hNs⟩, hEx⟩⟩ := hv
  subst hsz
  have hx := B.exec
  have hb := B.bytes
  have hr := B.returns
  have hts : ∀ w ∈ xTB, w.before ([.ref (a 0), .ref q, .int (ki 21)] : List Value).toArray s = true := fun w hw => atoms_spec (ws := Cond.code yL_tell cL_tell 4 (some .boolean) :: xTB) B.pre w (List.mem_cons_of_mem _ hw)
  have hown : s.vm.findClass RL = some m.cls := findClass_of_methodNamed B.named
  have hlocks := B.notSynchronized
  have hl := lv_entry ([.ref (a 0), .ref q, .int (ki 21)]) (n := 4) (Nat.le_of_ble_eq_true rfl)
  rw [lg_entry_eq]
  generalize (lg_sl ([.ref (a 0), .ref q, .int (ki 21)]) ++ List.replicate (4 - (lg_sl ([.ref (a 0), .ref q, .int (ki 21)])).length) Slot.unset).toArray = ls at hl ⊢
  have hl : lv_has ls 4 [(0, .ref (a 0)), (1, .ref q), (2, .int (ki 21))] := hl
  have hP : va_P D vwCl (List.flatten [[(q, .inl (cy 0, 21, .inl f))], xW cy xtb a S]) s.heap := hP
  have hD := hD0.self (sz := s.heap.size)
  have hD : va_D (va_A (List.flatten [[(q, .inl (cy 0, 21, .inl f))], xW cy xtb a S]) s.heap.size) (List.flatten [[(q, .inl (cy 0, 21, .inl f))], xW cy xtb a S]) := hD
  have hZ : jZ zE zc ad (va_A (List.flatten [[(q, .inl (cy 0, 21, .inl f))], xW cy xtb a S]) s.heap.size) s s.heap := hZ
  have hEx : xEx z (va_A (List.flatten [[(q, .inl (cy 0, 21, .inl f))], xW cy xtb a S]) s.heap.size) s s.heap := hEx
  have hbA0 : ¬ va_A (List.flatten [[(q, .inl (cy 0, 21, .inl f))], xW cy xtb a S]) s.heap.size b := hbA0
  have hI : xI xtb a := xI_of_D (S := S) (xD_last (blk_D (bs := [[(q, .inl (cy 0, 21, .inl f))], xW cy xtb a S]) (rs := [[(q, .inl (cy 0, 21, .inl f))]]) (x := xW cy xtb a S) 1 rfl rfl hD))
  generalize hAe : va_A (List.flatten [[(q, .inl (cy 0, 21, .inl f))], xW cy xtb a S]) s.heap.size = A at hD hZ hEx hbA0 ⊢
  have hbA : ¬ A b := hbA0
  have hA : ∀ q : Nat, s.heap.size ≤ q → A q := fun q h => by rw [← hAe]; exact Or.inr h
  have hS : va_S A s.heap s.heap [] := va_S.rf
  refine lv_iconst (v := ki 0) hx hb dL_tell_0 rfl ?_
  refine lv_istore_n (lv' := [(3, .int (ki 0)), (0, .ref (a 0)), (1, .ref q), (2, .int (ki 21))]) hx hb dL_tell_1 rfl hl (by decide) rfl (fun ls hl => ?_)
  refine ST_L hx hb hml hown hts hK hN hZ hX hbl hbA hNs hEx hA hI ⟨Nat.le_of_ble_eq_true rfl, Nat.le_of_ble_eq_true rfl⟩ hfq (fun S1 hB ht H locs ls hl hP hD hS => ?_) 21 0 (by omega) _ hB ht _ _ ls (lv_sub hl [0, 1, 2, 3] rfl) hP hD hS
  refine lv_aload_n hx hb dL_tell_28 rfl (lv_at hl 0 rfl) ?_
  refine lv_iconst (v := ki 2) hx hb dL_tell_29 rfl ?_
  obtain ⟨⟨S30, v30⟩, hf30, hq30⟩ := t_count2 (S := S1) hB (t := 21) ht.1
  dsimp only at hq30
  obtain ⟨hv9, hf9, hl9⟩ := hq30
  subst hv9
  have hB := BX_q hB hf9 hl9
  have ht := xT_q ht (hf9.2 2 (by unfold qX; omega)) (hf9.2 3 (by unfold qX; omega))
  have hPc := blk_P (bs := ([[(q, .inl (cy 0, 21, .inl f))], xW cy xtb a S1] : List va_W)) (rs := ([[(q, .inl (cy 0, 21, .inl f))]] : List va_W)) (x := xW cy xtb a S1) 1 rfl rfl hP
  have hDc := blk_D (bs := ([[(q, .inl (cy 0, 21, .inl f))], xW cy xtb a S1] : List va_W)) (rs := ([[(q, .inl (cy 0, 21, .inl f))]] : List va_W)) (x := xW cy xtb a S1) 1 rfl rfl hD
  refine lw_vi hx hb hml hown hts (K_sub hK) hEx hI hPc hDc hS hA (⟨xw_mem 785 (by decide +kernel) rfl, xw_mem 30 (by decide +kernel) rfl, xw_mem 782 (by decide +kernel) rfl, by decide +kernel⟩ : xML RL 13 yX11_count cX11_count 2 (some .int) 1) (xw_mem 783 (by decide +kernel) rfl) (xw_mem 784 (by decide +kernel) rfl) (he := rfl) (by decide) rfl [.int (ki 2)] (rest := []) (c_X11_count hI hf30 _) ⟨Nat.le_of_ble_eq_true rfl, Nat.le_of_ble_eq_true rfl⟩ ⟨Nat.le_of_ble_eq_true rfl, Nat.le_of_ble_eq_true rfl⟩ rfl hl.1 rfl (Nat.le_of_ble_eq_true (rfl)) dL_tell_30 (fun H locs hPn hS => ?_)
  have hDn := xD_st (S' := S30) hDc
  have hP := blk_P2 (bs := ([[(q, .inl (cy 0, 21, .inl f))], xW cy xtb a S30] : List va_W)) (rs := ([[(q, .inl (cy 0, 21, .inl f))]] : List va_W)) (x := xW cy xtb a S30) 1 rfl rfl hPn
  have hD := blk_D2 (bs := ([[(q, .inl (cy 0, 21, .inl f))], xW cy xtb a S30] : List va_W)) (rs := ([[(q, .inl (cy 0, 21, .inl f))]] : List va_W)) (x := xW cy xtb a S30) 1 rfl rfl hDn
  refine lv_iload_n hx hb dL_tell_33 rfl (lv_at hl 2 rfl) ?_
  refine kv_icmp_ne_f (tgt := 41) hx hb (by omega) (by omega) (by omega) (by omega) (by omega) dL_tell_34 (by decide) ?_
  refine lv_iconst (v := ki 1) hx hb dL_tell_37 rfl ?_
  refine lv_goto (tgt := 42) hx hb dL_tell_38 (by decide) ?_
  exact W.zret (v := ki 1) hx hb hr (x_nz (Or.inr rfl)) (fun t ht9 hW => ⟨⟨_, S30, rfl, rfl, hB, ht, by rw [ht9]; exact hP, hD⟩, hS.F ht9⟩) hS.2.2 dL_tell_42
section SU
variable {p : Program} {e : Env} {R : Room} {s : State} {m : MethodId} {args : Array Value} {below : List Frame} {meth : Method} {c : Code} {Q : State → Prop} {A : Nat → Prop}
variable {r : Nat}
set_option maxHeartbeats 2000000 in
set_option maxRecDepth 20000 in
theorem SU_K (hx : p.tables.exec = Jvm.exec) (hb : c.code = cL_built) (hml : c.maxLocals = 5) (hown : s.vm.findClass RL = some m.cls) (hts : ∀ w ∈ xTB, w.before args s = true) (hK : va_K D vwCl (xtyL cy) s) (hN : jN mi s) (hZ : jZ zE zc ad A s s.heap) (hX : va_X b L xs s s.heap) (hbl : b < s.heap.size) (hbA : ¬ A b) (hNs : nS s) (hEx : xEx z A s s.heap) (hA : ∀ q, s.heap.size ≤ q → A q) (hI : xI xtb a) (hR : 20 ≤ R.frames ∧ 800 ≤ R.locals) (hL : L ≤ 1000) (hr5 : r < 6) (kk : ∀ (S1 : xSt) (η : Hy) (hB : BX η gn0 S1) (hp : bP L xs (r : Int) (hgS L xs (r : Int)) η) (ht : S1.1 2 1 = ki 0) (H : Heap) (locs : List Loc) (ls : Array Slot), lv_has ls 5 [(0, .ref (a 0)), (1, .ref b), (2, .int (ki (r : Int)))] → va_P D vwCl (List.flatten [xW cy xtb a S1]) H → va_D A (List.flatten [xW cy xtb a S1]) → va_S A s.heap H locs → W p l e R s m args below meth c H locs 0 0 Q (F0 m 117 ls [])) : ∀ (d i : Nat), i + d = (hgS L xs (r : Int)).toNat → ∀ (S1 : xSt) (η : Hy) (hB : BX η gn0 S1) (hp : bP L xs (r : Int) (i : Nat) η) (ht : S1.1 2 1 = ki 0) (H : Heap) (locs : List Loc) (ls : Array Slot), lv_has ls 5 [(3, .int (ki (i : Int))), (0, .ref (a 0)), (1, .ref b), (2, .int (ki (r : Int)))] → va_P D vwCl (List.flatten [xW cy xtb a S1]) H → va_D A (List.flatten [xW cy xtb a S1]) → va_S A s.heap H locs → W p l e R s m args below meth c H locs 0 0 Q (F0 m 10 ls []) := by
  intro d
  induction d with
  | zero =>
    intro i hi S1 η hB hp ht H locs ls hl hP hD hS
    have hi : i = (hgS L xs (r : Int)).toNat := by omega
    subst hi
    have hgb := hgS_b (L := L) (xs := xs) (r : Int)
    have hp : bP L xs (r : Int) (hgS L xs (r : Int)) η := by rw [show (((hgS L xs (r : Int)).toNat : Nat) : Int) = hgS L xs (r : Int) by omega] at hp; exact hp
    refine lv_iload_n hx hb dL_built_10 rfl (lv_at hl 0 rfl) ?_
    refine lv_aload_n hx hb dL_built_11 rfl (lv_at hl 2 rfl) ?_
    refine lv_iload_n hx hb dL_built_12 rfl (lv_at hl 3 rfl) ?_
    refine lk_pure hx hb hml hown hts hX hbl hbA hS hA (⟨xw_mem 953 (by decide +kernel) rfl, xw_mem 29 (by decide +kernel) rfl, xw_mem 951 (by decide +kernel) rfl, by decide +kernel⟩ : xML RL 24 yL_high cL_high 2 (some .int) 2) (xw_mem 952 (by decide +kernel) rfl) (As := [.ref b, .int (ki (r : Int))]) (rest := [.int (ki (((hgS L xs (r : Int)).toNat : Nat) : Int))]) (c_L_high (i := (r : Int)) hL (by omega) (by omega) _) ⟨(by omega), (by omega)⟩ ⟨by omega, by omega⟩ rfl hl.1 rfl (Nat.le_of_ble_eq_true (rfl)) dL_built_13 (fun H locs hP9 hS => ?_)
    have hP := hP9 _ _ _ hP
    refine kv_icmp_ge_t (tgt := 117) hx hb (by omega) (by omega) (by omega) (by omega) (by omega) dL_built_16 (by decide) ?_
    exact kk S1 η hB hp ht H _ ls (lv_sub hl [1, 2, 3] rfl) hP hD hS
  | succ d ih =>
    intro i hi S1 η hB hp ht H locs ls hl hP hD hS
    have hgb := hgS_b (L := L) (xs := xs) (r : Int)
    have n0 := nuS_0 (L := L) (xs := xs) (5 * (r : Int) + (i : Int))
    have n1 := nuS_1 (L := L) (xs := xs) (5 * (r : Int) + (i : Int))
    have n2 := nuS_2 (L := L) (xs := xs) (5 * (r : Int) + (i : Int))
    have n3 := nuS_3 (L := L) (xs := xs) (5 * (r : Int) + (i : Int))
    have n4 := nuS_4 (L := L) (xs := xs) (5 * (r : Int) + (i : Int))
    have hc9 := bP_c hp (by omega) (by omega) (by omega) (by omega) (nuS L xs (5 * (r : Int) + (i : Int)) 0) (nuS L xs (5 * (r : Int) + (i : Int)) 4)
    refine lv_iload_n hx hb dL_built_10 rfl (lv_at hl 0 rfl) ?_
    refine lv_aload_n hx hb dL_built_11 rfl (lv_at hl 2 rfl) ?_
    refine lv_iload_n hx hb dL_built_12 rfl (lv_at hl 3 rfl) ?_
    refine lk_pure hx hb hml hown hts hX hbl hbA hS hA (⟨xw_mem 953 (by decide +kernel) rfl, xw_mem 29 (by decide +kernel) rfl, xw_mem 951 (by decide +kernel) rfl, by decide +kernel⟩ : xML RL 24 yL_high cL_high 2 (some .int) 2) (xw_mem 952 (by decide +kernel) rfl) (As := [.ref b, .int (ki (r : Int))]) (rest := [.int (ki (i : Int))]) (c_L_high (i := (r : Int)) hL (by omega) (by omega) _) ⟨(by omega), (by omega)⟩ ⟨by omega, by omega⟩ rfl hl.1 rfl (Nat.le_of_ble_eq_true (rfl)) dL_built_13 (fun H locs hP9 hS => ?_)
    have hP := hP9 _ _ _ hP
    refine kv_icmp_ge_f (tgt := 117) hx hb (by omega) (by omega) (by omega) (by omega) (by omega) dL_built_16 (by decide) ?_
    refine lv_iconst (v := ki 5) hx hb dL_built_19 rfl ?_
    refine lv_iload_n hx hb dL_built_20 rfl (lv_at hl 3 rfl) ?_
    refine kv_mul (r := 5 * (r : Int)) hx hb rfl dL_built_21 ?_
    refine lv_iload_n hx hb dL_built_22 rfl (lv_at hl 0 rfl) ?_
    refine kv_add (r := 5 * (r : Int) + (i : Int)) hx hb rfl dL_built_23 ?_
    refine lv_istore (lv' := [(4, .int (ki (5 * (r : Int) + (i : Int)))), (3, .int (ki (i : Int))), (0, .ref (a 0)), (1, .ref b), (2, .int (ki (r : Int)))]) hx hb dL_built_24 hl (by decide) rfl (fun ls hl => ?_)
    refine lv_aload_n hx hb dL_built_26 rfl (lv_at hl 2 rfl) ?_
    refine lv_iload_n hx hb dL_built_27 rfl (lv_at hl 4 rfl) ?_
    refine lv_bipush (v := ki 10) hx hb dL_built_28 rfl ?_
    refine lv_aload_n hx hb dL_built_30 rfl (lv_at hl 3 rfl) ?_
    refine lv_iload hx hb dL_built_31 (lv_at hl 0 rfl) ?_
    refine lv_iconst (v := ki 0) hx hb dL_built_33 rfl ?_
    refine lk_pure hx hb hml hown hts hX hbl hbA hS hA (⟨xw_mem 799 (by decide +kernel) rfl, xw_mem 29 (by decide +kernel) rfl, xw_mem 954 (by decide +kernel) rfl, by decide +kernel⟩ : xML RL 27 yL_number cL_number 4 (some .int) 3) (xw_mem 798 (by decide +kernel) rfl) (As := [.ref b, .int (ki (5 * (r : Int) + (i : Int))), .int (ki 0)]) (rest := [.int (ki 10), .int (ki (r : Int)), .ref (a 0)]) (c_L_number (i := 5 * (r : Int) + (i : Int)) (k := 0) hL (by omega) (by omega) (by omega) (by omega) _) ⟨(by omega), (by omega)⟩ ⟨by omega, by omega⟩ rfl hl.1 rfl (Nat.le_of_ble_eq_true (rfl)) dL_built_34 (fun H locs hP9 hS => ?_)
    have hP := hP9 _ _ _ hP
    refine kv_mul (r := 10 * (nuS L xs (5 * (r : Int) + (i : Int)) 0)) hx hb rfl dL_built_37 ?_
    refine lv_aload_n hx hb dL_built_38 rfl (lv_at hl 3 rfl) ?_
    refine lv_iload hx hb dL_built_39 (lv_at hl 0 rfl) ?_
    refine lv_iconst (v := ki 4) hx hb dL_built_41 rfl ?_
    refine lk_pure hx hb hml hown hts hX hbl hbA hS hA (⟨xw_mem 799 (by decide +kernel) rfl, xw_mem 29 (by decide +kernel) rfl, xw_mem 954 (by decide +kernel) rfl, by decide +kernel⟩ : xML RL 27 yL_number cL_number 4 (some .int) 3) (xw_mem 798 (by decide +kernel) rfl) (As := [.ref b, .int (ki (5 * (r : Int) + (i : Int))), .int (ki 4)]) (rest := [.int (ki (10 * (nuS L xs (5 * (r : Int) + (i : Int)) 0))), .int (ki (r : Int)), .ref (a 0)]) (c_L_number (i := 5 * (r : Int) + (i : Int)) (k := 4) hL (by omega) (by omega) (by omega) (by omega) _) ⟨(by omega), (by omega)⟩ ⟨by omega, by omega⟩ rfl hl.1 rfl (Nat.le_of_ble_eq_true (rfl)) dL_built_42 (fun H locs hP9 hS => ?_)
    have hP := hP9 _ _ _ hP
    refine kv_add (r := (10 * (nuS L xs (5 * (r : Int) + (i : Int)) 0)) + (nuS L xs (5 * (r : Int) + (i : Int)) 4)) hx hb rfl dL_built_45 ?_
    obtain ⟨⟨S46, v46⟩, hf46, hq46⟩ := t_cart (S := S1) hB (c := (r : Int)) (d := nuS L xs (5 * (r : Int) + (i : Int)) 0) (l := nuS L xs (5 * (r : Int) + (i : Int)) 4) (by omega) (by omega) n0.1 n0.2 n4.1 n4.2 (by rw [hc9.1]; omega)
    dsimp only at hq46
    obtain ⟨hv9, hB, hf9⟩ := hq46
    subst hv9
    have ht : S46.1 2 1 = ki 0 := by rw [hf9.2 2 (by unfold qX2; omega)]; exact ht
    have hPc := blk_P (bs := ([xW cy xtb a S1] : List va_W)) (rs := ([] : List va_W)) (x := xW cy xtb a S1) 0 rfl rfl hP
    have hDc := blk_D (bs := ([xW cy xtb a S1] : List va_W)) (rs := ([] : List va_W)) (x := xW cy xtb a S1) 0 rfl rfl hD
    refine lw_vi hx hb hml hown hts (K_sub hK) hEx hI hPc hDc hS hA (⟨xw_mem 423 (by decide +kernel) rfl, xw_mem 30 (by decide +kernel) rfl, xw_mem 420 (by decide +kernel) rfl, by decide +kernel⟩ : xML RL 31 yX11_cart cX11_cart 3 (some .int) 2) (xw_mem 421 (by decide +kernel) rfl) (xw_mem 422 (by decide +kernel) rfl) (he := rfl) (by decide) rfl [.int (ki (r : Int)), .int (ki ((10 * (nuS L xs (5 * (r : Int) + (i : Int)) 0)) + (nuS L xs (5 * (r : Int) + (i : Int)) 4)))] (rest := []) (c_X11_cart hI hf46 _) ⟨by omega, by omega⟩ ⟨by omega, by omega⟩ rfl hl.1 rfl (Nat.le_of_ble_eq_true (rfl)) dL_built_46 (fun H locs hPn hS => ?_)
    have hDn := xD_st (S' := S46) hDc
    have hP := blk_P2 (bs := ([xW cy xtb a S46] : List va_W)) (rs := ([] : List va_W)) (x := xW cy xtb a S46) 0 rfl rfl hPn
    have hD := blk_D2 (bs := ([xW cy xtb a S46] : List va_W)) (rs := ([] : List va_W)) (x := xW cy xtb a S46) 0 rfl rfl hDn
    refine lv_iload hx hb dL_built_49 (lv_at hl 0 rfl) ?_
    refine kv_icmp_ne_f (tgt := 109) hx hb (by rw [hc9.1]) (by first | omega | (rw [hc9.1]; omega)) (by first | omega | (rw [hc9.1]; omega)) (by first | omega | (rw [hc9.1]; omega)) (by first | omega | (rw [hc9.1]; omega)) dL_built_51 (by decide) ?_
    refine lv_aload_n hx hb dL_built_54 rfl (lv_at hl 2 rfl) ?_
    refine lv_iload hx hb dL_built_55 (lv_at hl 0 rfl) ?_
    refine lv_iconst (v := ki 1) hx hb dL_built_57 rfl ?_
    refine lv_aload_n hx hb dL_built_58 rfl (lv_at hl 3 rfl) ?_
    refine lv_iload hx hb dL_built_59 (lv_at hl 0 rfl) ?_
    refine lv_iconst (v := ki 1) hx hb dL_built_61 rfl ?_
    refine lk_pure hx hb hml hown hts hX hbl hbA hS hA (⟨xw_mem 799 (by decide +kernel) rfl, xw_mem 29 (by decide +kernel) rfl, xw_mem 954 (by decide +kernel) rfl, by decide +kernel⟩ : xML RL 27 yL_number cL_number 4 (some .int) 3) (xw_mem 798 (by decide +kernel) rfl) (As := [.ref b, .int (ki (5 * (r : Int) + (i : Int))), .int (ki 1)]) (rest := [.int (ki 1), .int (ki (5 * (r : Int) + (i : Int))), .ref (a 0)]) (c_L_number (i := 5 * (r : Int) + (i : Int)) (k := 1) hL (by omega) (by omega) (by omega) (by omega) _) ⟨(by omega), (by omega)⟩ ⟨by omega, by omega⟩ rfl hl.1 rfl (Nat.le_of_ble_eq_true (rfl)) dL_built_62 (fun H locs hP9 hS => ?_)
    have hP := hP9 _ _ _ hP
    obtain ⟨⟨S65, v65⟩, hf65, hq65⟩ := t_mend (S := S46) hB (n := (5 * (r : Int) + (i : Int))) (w := 1) (v := nuS L xs (5 * (r : Int) + (i : Int)) 1) (Or.inl ⟨by omega, by omega, hc9.2.1⟩) (by unfold loW hiW; exact n1)
    dsimp only at hq65
    obtain ⟨hv9, hB, hf9⟩ := hq65
    subst hv9
    have ht : S65.1 2 1 = ki 0 := by rw [hf9.2 2 (by omega)]; exact ht
    rw [show valW (crS (r : Int) (nuS L xs (5 * (r : Int) + (i : Int)) 0) (nuS L xs (5 * (r : Int) + (i : Int)) 4) η) 1 (5 * (r : Int) + (i : Int)) = 20 from hc9.2.2.1] at hf65
    have hPc := blk_P (bs := ([xW cy xtb a S46] : List va_W)) (rs := ([] : List va_W)) (x := xW cy xtb a S46) 0 rfl rfl hP
    have hDc := blk_D (bs := ([xW cy xtb a S46] : List va_W)) (rs := ([] : List va_W)) (x := xW cy xtb a S46) 0 rfl rfl hD
    refine lw_vi hx hb hml hown hts (K_sub hK) hEx hI hPc hDc hS hA (⟨xw_mem 438 (by decide +kernel) rfl, xw_mem 30 (by decide +kernel) rfl, xw_mem 435 (by decide +kernel) rfl, by decide +kernel⟩ : xML RL 35 yX11_mend cX11_mend 5 (some .int) 3) (xw_mem 436 (by decide +kernel) rfl) (xw_mem 437 (by decide +kernel) rfl) (he := rfl) (by decide) rfl [.int (ki (5 * (r : Int) + (i : Int))), .int (ki 1), .int (ki (nuS L xs (5 * (r : Int) + (i : Int)) 1))] (rest := []) (c_X11_mend hI hf65 _) ⟨by omega, by omega⟩ ⟨by omega, by omega⟩ rfl hl.1 rfl (Nat.le_of_ble_eq_true (rfl)) dL_built_65 (fun H locs hPn hS => ?_)
    have hDn := xD_st (S' := S65) hDc
    have hP := blk_P2 (bs := ([xW cy xtb a S65] : List va_W)) (rs := ([] : List va_W)) (x := xW cy xtb a S65) 0 rfl rfl hPn
    have hD := blk_D2 (bs := ([xW cy xtb a S65] : List va_W)) (rs := ([] : List va_W)) (x := xW cy xtb a S65) 0 rfl rfl hDn
    refine lv_bipush (v := ki 20) hx hb dL_built_68 rfl ?_
    refine kv_icmp_ne_f (tgt := 109) hx hb (by omega) (by omega) (by omega) (by omega) (by omega) dL_built_70 (by decide) ?_
    refine lv_aload_n hx hb dL_built_73 rfl (lv_at hl 2 rfl) ?_
    refine lv_iload hx hb dL_built_74 (lv_at hl 0 rfl) ?_
    refine lv_iconst (v := ki 2) hx hb dL_built_76 rfl ?_
    refine lv_aload_n hx hb dL_built_77 rfl (lv_at hl 3 rfl) ?_
    refine lv_iload hx hb dL_built_78 (lv_at hl 0 rfl) ?_
    refine lv_iconst (v := ki 2) hx hb dL_built_80 rfl ?_
    refine lk_pure hx hb hml hown hts hX hbl hbA hS hA (⟨xw_mem 799 (by decide +kernel) rfl, xw_mem 29 (by decide +kernel) rfl, xw_mem 954 (by decide +kernel) rfl, by decide +kernel⟩ : xML RL 27 yL_number cL_number 4 (some .int) 3) (xw_mem 798 (by decide +kernel) rfl) (As := [.ref b, .int (ki (5 * (r : Int) + (i : Int))), .int (ki 2)]) (rest := [.int (ki 2), .int (ki (5 * (r : Int) + (i : Int))), .ref (a 0)]) (c_L_number (i := 5 * (r : Int) + (i : Int)) (k := 2) hL (by omega) (by omega) (by omega) (by omega) _) ⟨(by omega), (by omega)⟩ ⟨by omega, by omega⟩ rfl hl.1 rfl (Nat.le_of_ble_eq_true (rfl)) dL_built_81 (fun H locs hP9 hS => ?_)
    have hP := hP9 _ _ _ hP
    obtain ⟨⟨S84, v84⟩, hf84, hq84⟩ := t_mend (S := S65) hB (n := (5 * (r : Int) + (i : Int))) (w := 2) (v := nuS L xs (5 * (r : Int) + (i : Int)) 2) (Or.inl ⟨by omega, by omega, hc9.2.1⟩) (by unfold loW hiW; exact n2)
    dsimp only at hq84
    obtain ⟨hv9, hB, hf9⟩ := hq84
    subst hv9
    have ht : S84.1 2 1 = ki 0 := by rw [hf9.2 2 (by omega)]; exact ht
    rw [show valW (telS (5 * (r : Int) + (i : Int)) 1 (nuS L xs (5 * (r : Int) + (i : Int)) 1) (crS (r : Int) (nuS L xs (5 * (r : Int) + (i : Int)) 0) (nuS L xs (5 * (r : Int) + (i : Int)) 4) η)) 2 (5 * (r : Int) + (i : Int)) = 99 from hc9.2.2.2.1] at hf84
    have hPc := blk_P (bs := ([xW cy xtb a S65] : List va_W)) (rs := ([] : List va_W)) (x := xW cy xtb a S65) 0 rfl rfl hP
    have hDc := blk_D (bs := ([xW cy xtb a S65] : List va_W)) (rs := ([] : List va_W)) (x := xW cy xtb a S65) 0 rfl rfl hD
    refine lw_vi hx hb hml hown hts (K_sub hK) hEx hI hPc hDc hS hA (⟨xw_mem 438 (by decide +kernel) rfl, xw_mem 30 (by decide +kernel) rfl, xw_mem 435 (by decide +kernel) rfl, by decide +kernel⟩ : xML RL 35 yX11_mend cX11_mend 5 (some .int) 3) (xw_mem 436 (by decide +kernel) rfl) (xw_mem 437 (by decide +kernel) rfl) (he := rfl) (by decide) rfl [.int (ki (5 * (r : Int) + (i : Int))), .int (ki 2), .int (ki (nuS L xs (5 * (r : Int) + (i : Int)) 2))] (rest := []) (c_X11_mend hI hf84 _) ⟨by omega, by omega⟩ ⟨by omega, by omega⟩ rfl hl.1 rfl (Nat.le_of_ble_eq_true (rfl)) dL_built_84 (fun H locs hPn hS => ?_)
    have hDn := xD_st (S' := S84) hDc
    have hP := blk_P2 (bs := ([xW cy xtb a S84] : List va_W)) (rs := ([] : List va_W)) (x := xW cy xtb a S84) 0 rfl rfl hPn
    have hD := blk_D2 (bs := ([xW cy xtb a S84] : List va_W)) (rs := ([] : List va_W)) (x := xW cy xtb a S84) 0 rfl rfl hDn
    refine lv_bipush (v := ki 99) hx hb dL_built_87 rfl ?_
    refine kv_icmp_ne_f (tgt := 109) hx hb (by omega) (by omega) (by omega) (by omega) (by omega) dL_built_89 (by decide) ?_
    refine lv_aload_n hx hb dL_built_92 rfl (lv_at hl 2 rfl) ?_
    refine lv_iload hx hb dL_built_93 (lv_at hl 0 rfl) ?_
    refine lv_iconst (v := ki 3) hx hb dL_built_95 rfl ?_
    refine lv_aload_n hx hb dL_built_96 rfl (lv_at hl 3 rfl) ?_
    refine lv_iload hx hb dL_built_97 (lv_at hl 0 rfl) ?_
    refine lv_iconst (v := ki 3) hx hb dL_built_99 rfl ?_
    refine lk_pure hx hb hml hown hts hX hbl hbA hS hA (⟨xw_mem 799 (by decide +kernel) rfl, xw_mem 29 (by decide +kernel) rfl, xw_mem 954 (by decide +kernel) rfl, by decide +kernel⟩ : xML RL 27 yL_number cL_number 4 (some .int) 3) (xw_mem 798 (by decide +kernel) rfl) (As := [.ref b, .int (ki (5 * (r : Int) + (i : Int))), .int (ki 3)]) (rest := [.int (ki 3), .int (ki (5 * (r : Int) + (i : Int))), .ref (a 0)]) (c_L_number (i := 5 * (r : Int) + (i : Int)) (k := 3) hL (by omega) (by omega) (by omega) (by omega) _) ⟨(by omega), (by omega)⟩ ⟨by omega, by omega⟩ rfl hl.1 rfl (Nat.le_of_ble_eq_true (rfl)) dL_built_100 (fun H locs hP9 hS => ?_)
    have hP := hP9 _ _ _ hP
    obtain ⟨⟨S103, v103⟩, hf103, hq103⟩ := t_mend (S := S84) hB (n := (5 * (r : Int) + (i : Int))) (w := 3) (v := nuS L xs (5 * (r : Int) + (i : Int)) 3) (Or.inl ⟨by omega, by omega, hc9.2.1⟩) (by unfold loW hiW; exact n3)
    dsimp only at hq103
    obtain ⟨hv9, hB, hf9⟩ := hq103
    subst hv9
    have ht : S103.1 2 1 = ki 0 := by rw [hf9.2 2 (by omega)]; exact ht
    rw [show valW (telS (5 * (r : Int) + (i : Int)) 2 (nuS L xs (5 * (r : Int) + (i : Int)) 2) (telS (5 * (r : Int) + (i : Int)) 1 (nuS L xs (5 * (r : Int) + (i : Int)) 1) (crS (r : Int) (nuS L xs (5 * (r : Int) + (i : Int)) 0) (nuS L xs (5 * (r : Int) + (i : Int)) 4) η))) 3 (5 * (r : Int) + (i : Int)) = 0 from hc9.2.2.2.2] at hf103
    have hPc := blk_P (bs := ([xW cy xtb a S84] : List va_W)) (rs := ([] : List va_W)) (x := xW cy xtb a S84) 0 rfl rfl hP
    have hDc := blk_D (bs := ([xW cy xtb a S84] : List va_W)) (rs := ([] : List va_W)) (x := xW cy xtb a S84) 0 rfl rfl hD
    refine lw_vi hx hb hml hown hts (K_sub hK) hEx hI hPc hDc hS hA (⟨xw_mem 438 (by decide +kernel) rfl, xw_mem 30 (by decide +kernel) rfl, xw_mem 435 (by decide +kernel) rfl, by decide +kernel⟩ : xML RL 35 yX11_mend cX11_mend 5 (some .int) 3) (xw_mem 436 (by decide +kernel) rfl) (xw_mem 437 (by decide +kernel) rfl) (he := rfl) (by decide) rfl [.int (ki (5 * (r : Int) + (i : Int))), .int (ki 3), .int (ki (nuS L xs (5 * (r : Int) + (i : Int)) 3))] (rest := []) (c_X11_mend hI hf103 _) ⟨by omega, by omega⟩ ⟨by omega, by omega⟩ rfl hl.1 rfl (Nat.le_of_ble_eq_true (rfl)) dL_built_103 (fun H locs hPn hS => ?_)
    have hDn := xD_st (S' := S103) hDc
    have hP := blk_P2 (bs := ([xW cy xtb a S103] : List va_W)) (rs := ([] : List va_W)) (x := xW cy xtb a S103) 0 rfl rfl hPn
    have hD := blk_D2 (bs := ([xW cy xtb a S103] : List va_W)) (rs := ([] : List va_W)) (x := xW cy xtb a S103) 0 rfl rfl hDn
    refine kv_if_eq_t (tgt := 111) hx hb (by omega) (by omega) (by omega) dL_built_106 (by decide) ?_
    refine lv_iinc (v := ki ((i + 1 : Nat) : Int)) (lv' := [(3, .int (ki ((i + 1 : Nat) : Int))), (4, .int (ki (5 * (r : Int) + (i : Int)))), (0, .ref (a 0)), (1, .ref b), (2, .int (ki (r : Int)))]) hx hb dL_built_111 hl (k := 1) rfl ((ki_add _ _).trans (congrArg ki (by omega))) (by decide) rfl (fun ls hl => ?_)
    refine lv_goto (tgt := 10) hx hb dL_built_114 (by decide) ?_
    exact ih (i + 1) (by omega) _ _ hB (by rw [show ((i + 1 : Nat) : Int) = (i : Int) + 1 by omega]; exact bP_s hp (by omega) (by omega) (by omega) (by omega) rfl (nuS L xs (5 * (r : Int) + (i : Int)) 4) (nuS L xs (5 * (r : Int) + (i : Int)) 1) (nuS L xs (5 * (r : Int) + (i : Int)) 2)) ht H _ ls (lv_sub hl [0, 2, 3, 4] rfl) hP hD hS
end SU
section SV
variable {p : Program} {e : Env} {R : Room} {s : State} {m : MethodId} {args : Array Value} {below : List Frame} {meth : Method} {c : Code} {Q : State → Prop} {A : Nat → Prop}
set_option maxHeartbeats 2000000 in
set_option maxRecDepth 20000 in
theorem SV_R (hx : p.tables.exec = Jvm.exec) (hb : c.code = cL_built) (hml : c.maxLocals = 5) (hown : s.vm.findClass RL = some m.cls) (hts : ∀ w ∈ xTB, w.before args s = true) (hK : va_K D vwCl (xtyL cy) s) (hN : jN mi s) (hZ : jZ zE zc ad A s s.heap) (hX : va_X b L xs s s.heap) (hbl : b < s.heap.size) (hbA : ¬ A b) (hNs : nS s) (hEx : xEx z A s s.heap) (hA : ∀ q, s.heap.size ≤ q → A q) (hI : xI xtb a) (hR : 20 ≤ R.frames ∧ 800 ≤ R.locals) (hL : L ≤ 1000) (kk : ∀ (S1 : xSt) (η : Hy) (hB : BX η gn0 S1) (hp : bP L xs (6 : Nat) 0 η) (ht : S1.1 2 1 = ki 0) (H : Heap) (locs : List Loc) (ls : Array Slot), lv_has ls 5 [(0, .ref (a 0)), (1, .ref b)] → va_P D vwCl (List.flatten [xW cy xtb a S1]) H → va_D A (List.flatten [xW cy xtb a S1]) → va_S A s.heap H locs → W p l e R s m args below meth c H locs 0 0 Q (F0 m 139 ls [])) : ∀ (d i : Nat), i + d = 6 → ∀ (S1 : xSt) (η : Hy) (hB : BX η gn0 S1) (hp : bP L xs (i : Nat) 0 η) (ht : S1.1 2 1 = ki 0) (H : Heap) (locs : List Loc) (ls : Array Slot), lv_has ls 5 [(2, .int (ki (i : Int))), (0, .ref (a 0)), (1, .ref b)] → va_P D vwCl (List.flatten [xW cy xtb a S1]) H → va_D A (List.flatten [xW cy xtb a S1]) → va_S A s.heap H locs → W p l e R s m args below meth c H locs 0 0 Q (F0 m 2 ls []) := by
  intro d
  induction d with
  | zero =>
    intro i hi S1 η hB hp ht H locs ls hl hP hD hS
    have hi : i = 6 := by omega
    subst hi
    refine lv_iload_n hx hb dL_built_2 rfl (lv_at hl 0 rfl) ?_
    refine lv_bipush (v := ki 6) hx hb dL_built_3 rfl ?_
    refine kv_icmp_ge_t (tgt := 139) hx hb (by omega) (by omega) (by omega) (by omega) (by omega) dL_built_5 (by decide) ?_
    exact kk S1 η hB hp ht H _ ls (lv_sub hl [1, 2] rfl) hP hD hS
  | succ d ih =>
    intro i hi S1 η hB hp ht H locs ls hl hP hD hS
    refine lv_iload_n hx hb dL_built_2 rfl (lv_at hl 0 rfl) ?_
    refine lv_bipush (v := ki 6) hx hb dL_built_3 rfl ?_
    refine kv_icmp_ge_f (tgt := 139) hx hb (by omega) (by omega) (by omega) (by omega) (by omega) dL_built_5 (by decide) ?_
    refine lv_iconst (v := ki 0) hx hb dL_built_8 rfl ?_
    refine lv_istore_n (lv' := [(3, .int (ki 0)), (2, .int (ki (i : Int))), (0, .ref (a 0)), (1, .ref b)]) hx hb dL_built_9 rfl hl (by decide) rfl (fun ls hl => ?_)
    refine SU_K hx hb hml hown hts hK hN hZ hX hbl hbA hNs hEx hA hI ⟨by omega, by omega⟩ hL (r := i) (by omega) (fun S1 η hB hp ht H locs ls hl hP hD hS => ?_) (hgS L xs (i : Int)).toNat 0 (by omega) S1 η hB hp ht _ _ ls (lv_sub hl [0, 2, 3, 1] rfl) hP hD hS
    have hch := chS_b (L := L) (xs := xs) (i : Int)
    have h20 : η 2 (i : Int) = 0 := hp.2.2.2.2.1 _ (by omega) (by omega)
    refine lv_aload_n hx hb dL_built_117 rfl (lv_at hl 0 rfl) ?_
    refine lv_iload_n hx hb dL_built_118 rfl (lv_at hl 2 rfl) ?_
    refine lv_iconst (v := ki 5) hx hb dL_built_119 rfl ?_
    refine lv_aload_n hx hb dL_built_120 rfl (lv_at hl 1 rfl) ?_
    refine lv_iload_n hx hb dL_built_121 rfl (lv_at hl 2 rfl) ?_
    refine lk_pure hx hb hml hown hts hX hbl hbA hS hA (⟨xw_mem 957 (by decide +kernel) rfl, xw_mem 29 (by decide +kernel) rfl, xw_mem 955 (by decide +kernel) rfl, by decide +kernel⟩ : xML RL 39 yL_chimney cL_chimney 2 (some .int) 2) (xw_mem 956 (by decide +kernel) rfl) (As := [.ref b, .int (ki (i : Int))]) (rest := [.int (ki 5), .int (ki (i : Int)), .ref (a 0)]) (c_L_chimney (i := (i : Int)) hL (by omega) (by omega) _) ⟨(by omega), (by omega)⟩ ⟨by omega, by omega⟩ rfl hl.1 rfl (Nat.le_of_ble_eq_true (rfl)) dL_built_122 (fun H locs hP9 hS => ?_)
    have hP := hP9 _ _ _ hP
    obtain ⟨⟨S125, v125⟩, hf125, hq125⟩ := t_mend (S := S1) hB (n := (i : Int)) (w := 5) (v := chS L xs (i : Int)) (Or.inr (Or.inl ⟨rfl, by omega, by omega⟩)) (by unfold loW hiW; exact hch)
    dsimp only at hq125
    obtain ⟨hv9, hB, hf9⟩ := hq125
    subst hv9
    have ht : S125.1 2 1 = ki 0 := by rw [hf9.2 2 (by omega)]; exact ht
    rw [show valW η 5 (i : Int) = 0 from h20] at hf125
    have hPc := blk_P (bs := ([xW cy xtb a S1] : List va_W)) (rs := ([] : List va_W)) (x := xW cy xtb a S1) 0 rfl rfl hP
    have hDc := blk_D (bs := ([xW cy xtb a S1] : List va_W)) (rs := ([] : List va_W)) (x := xW cy xtb a S1) 0 rfl rfl hD
    refine lw_vi hx hb hml hown hts (K_sub hK) hEx hI hPc hDc hS hA (⟨xw_mem 438 (by decide +kernel) rfl, xw_mem 30 (by decide +kernel) rfl, xw_mem 435 (by decide +kernel) rfl, by decide +kernel⟩ : xML RL 35 yX11_mend cX11_mend 5 (some .int) 3) (xw_mem 436 (by decide +kernel) rfl) (xw_mem 437 (by decide +kernel) rfl) (he := rfl) (by decide) rfl [.int (ki (i : Int)), .int (ki 5), .int (ki (chS L xs (i : Int)))] (rest := []) (c_X11_mend hI hf125 _) ⟨by omega, by omega⟩ ⟨by omega, by omega⟩ rfl hl.1 rfl (Nat.le_of_ble_eq_true (rfl)) dL_built_125 (fun H locs hPn hS => ?_)
    have hDn := xD_st (S' := S125) hDc
    have hP := blk_P2 (bs := ([xW cy xtb a S125] : List va_W)) (rs := ([] : List va_W)) (x := xW cy xtb a S125) 0 rfl rfl hPn
    have hD := blk_D2 (bs := ([xW cy xtb a S125] : List va_W)) (rs := ([] : List va_W)) (x := xW cy xtb a S125) 0 rfl rfl hDn
    refine kv_if_eq_t (tgt := 133) hx hb (by omega) (by omega) (by omega) dL_built_128 (by decide) ?_
    refine lv_iinc (v := ki ((i + 1 : Nat) : Int)) (lv' := [(2, .int (ki ((i + 1 : Nat) : Int))), (0, .ref (a 0)), (1, .ref b)]) hx hb dL_built_133 hl (k := 2) rfl ((ki_add _ _).trans (congrArg ki (by omega))) (by decide) rfl (fun ls hl => ?_)
    refine lv_goto (tgt := 2) hx hb dL_built_136 (by decide) ?_
    exact ih (i + 1) (by omega) _ _ hB (by rw [show ((i + 1 : Nat) : Int) = (i : Int) + 1 by omega]; exact bP_r hp (by omega) (by omega) _) ht H _ ls (lv_sub hl [0, 1, 2] rfl) hP hD hS
end SV
theorem blk2_perm {bs r1 rs : List va_W} {x y : va_W} (i j : Nat) (hi : bs[i]? = some y) (hr : bs.eraseIdx i = r1) (hj : r1[j]? = some x) (hq : r1.eraseIdx j = rs) : bs.flatten.Perm (rs.flatten ++ List.flatten [x, y]) := by
  refine (blk_perm i hi hr).trans ?_
  refine ((blk_perm j hj hq).append_right y).trans ?_
  show ((rs.flatten ++ x) ++ y).Perm (rs.flatten ++ (x ++ (y ++ [])))
  rw [List.append_nil, List.append_assoc]
set_option maxHeartbeats 4000000 in
set_option maxRecDepth 20000 in
theorem c_L_built {S : xSt} (hL : L ≤ 1000) (hB : BX η0 gn0 S) (ht : S.1 2 1 = ki 0) (sz : Nat) : Met l yL_built (Cond.code yL_built cL_built 5 (some .boolean) :: xTB) ({ frames := 80, cells := 1, slots := 21, locals := 2000 } : Room) (va_Pc [.ref (a 0), .ref b] (gP D cy mi zE zc ad z a b L xs [] S sz)) (va_Qi (S := xSt × Hy) (fun r _ => r = ki 1) (fun u t => (∃ gn, BX u.2 gn u.1) ∧ bE L xs u.2 ∧ va_P D vwCl (List.flatten [xW cy xtb a u.1]) t.heap ∧ va_D (va_A (List.flatten [xW cy xtb a S]) sz) (List.flatten [xW cy xtb a u.1])) (va_A (List.flatten [xW cy xtb a S]) sz)) 1 21 (va_A (List.flatten [xW cy xtb a S]) sz) := by
  refine Met.ofW (cc := cL_built) (maxL := 5) (ret := (some .boolean)) (by decide) rfl ?_
  intro p e s m args below meth c s₁ B hml hv
  obtain ⟨rfl, ⟨⟨⟨hsz, hP, hK, hD0, hN, hZ⟩, ⟨hbl, hX⟩, hbA0, hNs⟩, hEx⟩⟩ := hv
  subst hsz
  have hx := B.exec
  have hb := B.bytes
  have hr := B.returns
  have hts : ∀ w ∈ xTB, w.before ([.ref (a 0), .ref b] : List Value).toArray s = true := fun w hw => atoms_spec (ws := Cond.code yL_built cL_built 5 (some .boolean) :: xTB) B.pre w (List.mem_cons_of_mem _ hw)
  have hown : s.vm.findClass RL = some m.cls := findClass_of_methodNamed B.named
  have hlocks := B.notSynchronized
  have hl := lv_entry ([.ref (a 0), .ref b]) (n := 5) (Nat.le_of_ble_eq_true rfl)
  rw [lg_entry_eq]
  generalize (lg_sl ([.ref (a 0), .ref b]) ++ List.replicate (5 - (lg_sl ([.ref (a 0), .ref b])).length) Slot.unset).toArray = ls at hl ⊢
  have hl : lv_has ls 5 [(0, .ref (a 0)), (1, .ref b)] := hl
  have hP : va_P D vwCl (List.flatten [xW cy xtb a S]) s.heap := hP
  have hD := hD0.self (sz := s.heap.size)
  have hD : va_D (va_A (List.flatten [xW cy xtb a S]) s.heap.size) (List.flatten [xW cy xtb a S]) := hD
  have hZ : jZ zE zc ad (va_A (List.flatten [xW cy xtb a S]) s.heap.size) s s.heap := hZ
  have hEx : xEx z (va_A (List.flatten [xW cy xtb a S]) s.heap.size) s s.heap := hEx
  have hbA0 : ¬ va_A (List.flatten [xW cy xtb a S]) s.heap.size b := hbA0
  have hI : xI xtb a := xI_of_D (S := S) (xD_last (blk_D (bs := [xW cy xtb a S]) (rs := []) (x := xW cy xtb a S) 0 rfl rfl hD))
  generalize hAe : va_A (List.flatten [xW cy xtb a S]) s.heap.size = A at hD hZ hEx hbA0 ⊢
  have hbA : ¬ A b := hbA0
  have hA : ∀ q : Nat, s.heap.size ≤ q → A q := fun q h => by rw [← hAe]; exact Or.inr h
  have hS : va_S A s.heap s.heap [] := va_S.rf
  have hdec : Decidable (lwS L xs) := inferInstanceAs (Decidable (ceS L xs 0 / 262144 % 2 = 1))
  refine lv_iconst (v := ki 0) hx hb dL_built_0 rfl ?_
  refine lv_istore_n (lv' := [(2, .int (ki 0)), (0, .ref (a 0)), (1, .ref b)]) hx hb dL_built_1 rfl hl (by decide) rfl (fun ls hl => ?_)
  refine SV_R hx hb hml hown hts hK hN hZ hX hbl hbA hNs hEx hA hI ⟨Nat.le_of_ble_eq_true rfl, Nat.le_of_ble_eq_true rfl⟩ hL (fun S1 η hB hp ht H locs ls hl hP hD hS => ?_) 6 0 (by omega) S η0 hB bP_0 ht _ _ ls (lv_sub hl [0, 1, 2] rfl) hP hD hS
  have h90 : η 0 10 = 90 := hp.2.2.2.2.2.1
  have hgw := gwS_b (L := L) (xs := xs)
  refine lv_aload_n hx hb dL_built_139 rfl (lv_at hl 0 rfl) ?_
  refine lv_iconst (v := ki 0) hx hb dL_built_140 rfl ?_
  refine lv_bipush (v := ki 6) hx hb dL_built_141 rfl ?_
  refine lv_aload_n hx hb dL_built_143 rfl (lv_at hl 1 rfl) ?_
  refine lk_pure hx hb hml hown hts hX hbl hbA hS hA (⟨xw_mem 960 (by decide +kernel) rfl, xw_mem 29 (by decide +kernel) rfl, xw_mem 958 (by decide +kernel) rfl, by decide +kernel⟩ : xML RL 42 yL_glows cL_glows 1 (some .int) 1) (xw_mem 959 (by decide +kernel) rfl) (As := [.ref b]) (rest := [.int (ki 6), .int (ki 0), .ref (a 0)]) (c_L_glows hL _) ⟨(Nat.le_of_ble_eq_true rfl), (Nat.le_of_ble_eq_true rfl)⟩ ⟨Nat.le_of_ble_eq_true rfl, Nat.le_of_ble_eq_true rfl⟩ rfl hl.1 rfl (Nat.le_of_ble_eq_true (rfl)) dL_built_144 (fun H locs hP9 hS => ?_)
  have hP := hP9 _ _ _ hP
  obtain ⟨⟨S147, v147⟩, hf147, hq147⟩ := t_mend (S := S1) hB (n := 0) (w := 6) (v := gwS L xs) (Or.inr (Or.inr ⟨by omega, by omega, rfl⟩)) (by unfold loW hiW; exact hgw)
  dsimp only at hq147
  obtain ⟨hv9, hB, hf9⟩ := hq147
  subst hv9
  have ht : S147.1 2 1 = ki 0 := by rw [hf9.2 2 (by omega)]; exact ht
  rw [show valW η 6 0 = 90 from h90] at hf147
  have hE := bP_e hp (gwS L xs)
  have hPc := blk_P (bs := ([xW cy xtb a S1] : List va_W)) (rs := ([] : List va_W)) (x := xW cy xtb a S1) 0 rfl rfl hP
  have hDc := blk_D (bs := ([xW cy xtb a S1] : List va_W)) (rs := ([] : List va_W)) (x := xW cy xtb a S1) 0 rfl rfl hD
  refine lw_vi hx hb hml hown hts (K_sub hK) hEx hI hPc hDc hS hA (⟨xw_mem 438 (by decide +kernel) rfl, xw_mem 30 (by decide +kernel) rfl, xw_mem 435 (by decide +kernel) rfl, by decide +kernel⟩ : xML RL 35 yX11_mend cX11_mend 5 (some .int) 3) (xw_mem 436 (by decide +kernel) rfl) (xw_mem 437 (by decide +kernel) rfl) (he := rfl) (by decide) rfl [.int (ki 0), .int (ki 6), .int (ki (gwS L xs))] (rest := []) (c_X11_mend hI hf147 _) ⟨Nat.le_of_ble_eq_true rfl, Nat.le_of_ble_eq_true rfl⟩ ⟨Nat.le_of_ble_eq_true rfl, Nat.le_of_ble_eq_true rfl⟩ rfl hl.1 rfl (Nat.le_of_ble_eq_true (rfl)) dL_built_147 (fun H locs hPn hS => ?_)
  have hDn := xD_st (S' := S147) hDc
  have hP := blk_P2 (bs := ([xW cy xtb a S147] : List va_W)) (rs := ([] : List va_W)) (x := xW cy xtb a S147) 0 rfl rfl hPn
  have hD := blk_D2 (bs := ([xW cy xtb a S147] : List va_W)) (rs := ([] : List va_W)) (x := xW cy xtb a S147) 0 rfl rfl hDn
  refine lv_bipush (v := ki 90) hx hb dL_built_150 rfl ?_
  refine kv_icmp_eq_t (tgt := 157) hx hb (by omega) (by omega) (by omega) (by omega) (by omega) dL_built_152 (by decide) ?_
  refine lv_aload_n hx hb dL_built_157 rfl (lv_at hl 1 rfl) ?_
  refine lk_pure hx hb hml hown hts hX hbl hbA hS hA (⟨xw_mem 963 (by decide +kernel) rfl, xw_mem 29 (by decide +kernel) rfl, xw_mem 961 (by decide +kernel) rfl, by decide +kernel⟩ : xML RL 46 yL_hasLaw cL_hasLaw 1 (some .boolean) 1) (xw_mem 962 (by decide +kernel) rfl) (As := [.ref b]) (rest := []) (c_L_hasLaw hL _) ⟨(Nat.le_of_ble_eq_true rfl), (Nat.le_of_ble_eq_true rfl)⟩ ⟨Nat.le_of_ble_eq_true rfl, Nat.le_of_ble_eq_true rfl⟩ rfl hl.1 rfl (Nat.le_of_ble_eq_true (rfl)) dL_built_158 (fun H locs hP9 hS => ?_)
  have hP := hP9 _ _ _ hP
  by_cases hc158 : lwS L xs
  · rw [show bi (lwS L xs) = 1 from if_pos hc158]
    refine kv_if_ne_t (tgt := 166) hx hb (by omega) (by omega) (by omega) dL_built_161 (by decide) ?_
    refine lv_bipush (v := ki 21) hx hb dL_built_166 rfl ?_
    refine x_newa (atype := .int) (ty := .int) hx hb (hts _ xar_i) rfl hK 0 rfl hP hD hS hA (N' := 21) (a0 := (21, .inl (fun _ => (0 : Int32)))) rfl (by decide) (by decide) (Nat.le_of_ble_eq_true rfl) (Nat.le_of_ble_eq_true rfl) (Nat.le_of_ble_eq_true rfl) dL_built_168 (fun q168 H hPn hDn hS _ _ => ?_)
    have hP : va_P D vwCl (List.flatten [[(q168, .inl (cy 0, 21, .inl (fun _ => (0 : Int32))))], xW cy xtb a S147]) H := blk_P2 (bs := ([[(q168, .inl (cy 0, 21, .inl (fun _ => (0 : Int32))))], xW cy xtb a S147] : List va_W)) (rs := [xW cy xtb a S147]) (x := [(q168, .inl (cy 0, 21, .inl (fun _ => (0 : Int32))))]) 0 rfl rfl hPn
    have hD : va_D A (List.flatten [[(q168, .inl (cy 0, 21, .inl (fun _ => (0 : Int32))))], xW cy xtb a S147]) := blk_D2 (bs := ([[(q168, .inl (cy 0, 21, .inl (fun _ => (0 : Int32))))], xW cy xtb a S147] : List va_W)) (rs := [xW cy xtb a S147]) (x := [(q168, .inl (cy 0, 21, .inl (fun _ => (0 : Int32))))]) 0 rfl rfl hDn
    refine lv_dup hx hb dL_built_170 rfl ?_
    refine lv_iconst (v := ki 0) hx hb dL_built_171 rfl ?_
    refine lv_bipush (v := ki 100) hx hb dL_built_172 rfl ?_
    refine kv_ast hx hb hK hP hD hS 0 0 rfl rfl (Nat.le_of_ble_eq_true rfl) (by decide) (by decide) dL_built_174 (fun H locs hP hD hS => ?_)
    have hP : va_P D vwCl (List.flatten [[(q168, .inl (cy 0, 21, .inl (upd (fun _ => (0 : Int32)) (0 : Int).toNat (ki 100))))], xW cy xtb a S147]) H := hP
    have hD : va_D A (List.flatten [[(q168, .inl (cy 0, 21, .inl (upd (fun _ => (0 : Int32)) (0 : Int).toNat (ki 100))))], xW cy xtb a S147]) := hD
    refine lv_dup hx hb dL_built_175 rfl ?_
    refine lv_iconst (v := ki 1) hx hb dL_built_176 rfl ?_
    refine lv_bipush (v := ki 42) hx hb dL_built_177 rfl ?_
    refine kv_ast hx hb hK hP hD hS 0 0 rfl rfl (Nat.le_of_ble_eq_true rfl) (by decide) (by decide) dL_built_179 (fun H locs hP hD hS => ?_)
    have hP : va_P D vwCl (List.flatten [[(q168, .inl (cy 0, 21, .inl (upd (upd (fun _ => (0 : Int32)) (0 : Int).toNat (ki 100)) (1 : Int).toNat (ki 42))))], xW cy xtb a S147]) H := hP
    have hD : va_D A (List.flatten [[(q168, .inl (cy 0, 21, .inl (upd (upd (fun _ => (0 : Int32)) (0 : Int).toNat (ki 100)) (1 : Int).toNat (ki 42))))], xW cy xtb a S147]) := hD
    refine lv_dup hx hb dL_built_180 rfl ?_
    refine lv_iconst (v := ki 2) hx hb dL_built_181 rfl ?_
    refine lv_bipush (v := ki 50) hx hb dL_built_182 rfl ?_
    refine kv_ast hx hb hK hP hD hS 0 0 rfl rfl (Nat.le_of_ble_eq_true rfl) (by decide) (by decide) dL_built_184 (fun H locs hP hD hS => ?_)
    have hP : va_P D vwCl (List.flatten [[(q168, .inl (cy 0, 21, .inl (upd (upd (upd (fun _ => (0 : Int32)) (0 : Int).toNat (ki 100)) (1 : Int).toNat (ki 42)) (2 : Int).toNat (ki 50))))], xW cy xtb a S147]) H := hP
    have hD : va_D A (List.flatten [[(q168, .inl (cy 0, 21, .inl (upd (upd (upd (fun _ => (0 : Int32)) (0 : Int).toNat (ki 100)) (1 : Int).toNat (ki 42)) (2 : Int).toNat (ki 50))))], xW cy xtb a S147]) := hD
    refine lv_dup hx hb dL_built_185 rfl ?_
    refine lv_iconst (v := ki 3) hx hb dL_built_186 rfl ?_
    refine lv_bipush (v := ki 45) hx hb dL_built_187 rfl ?_
    refine kv_ast hx hb hK hP hD hS 0 0 rfl rfl (Nat.le_of_ble_eq_true rfl) (by decide) (by decide) dL_built_189 (fun H locs hP hD hS => ?_)
    have hP : va_P D vwCl (List.flatten [[(q168, .inl (cy 0, 21, .inl (upd (upd (upd (upd (fun _ => (0 : Int32)) (0 : Int).toNat (ki 100)) (1 : Int).toNat (ki 42)) (2 : Int).toNat (ki 50)) (3 : Int).toNat (ki 45))))], xW cy xtb a S147]) H := hP
    have hD : va_D A (List.flatten [[(q168, .inl (cy 0, 21, .inl (upd (upd (upd (upd (fun _ => (0 : Int32)) (0 : Int).toNat (ki 100)) (1 : Int).toNat (ki 42)) (2 : Int).toNat (ki 50)) (3 : Int).toNat (ki 45))))], xW cy xtb a S147]) := hD
    refine lv_dup hx hb dL_built_190 rfl ?_
    refine lv_iconst (v := ki 4) hx hb dL_built_191 rfl ?_
    refine lv_bipush (v := ki 97) hx hb dL_built_192 rfl ?_
    refine kv_ast hx hb hK hP hD hS 0 0 rfl rfl (Nat.le_of_ble_eq_true rfl) (by decide) (by decide) dL_built_194 (fun H locs hP hD hS => ?_)
    have hP : va_P D vwCl (List.flatten [[(q168, .inl (cy 0, 21, .inl (upd (upd (upd (upd (upd (fun _ => (0 : Int32)) (0 : Int).toNat (ki 100)) (1 : Int).toNat (ki 42)) (2 : Int).toNat (ki 50)) (3 : Int).toNat (ki 45)) (4 : Int).toNat (ki 97))))], xW cy xtb a S147]) H := hP
    have hD : va_D A (List.flatten [[(q168, .inl (cy 0, 21, .inl (upd (upd (upd (upd (upd (fun _ => (0 : Int32)) (0 : Int).toNat (ki 100)) (1 : Int).toNat (ki 42)) (2 : Int).toNat (ki 50)) (3 : Int).toNat (ki 45)) (4 : Int).toNat (ki 97))))], xW cy xtb a S147]) := hD
    refine lv_dup hx hb dL_built_195 rfl ?_
    refine lv_iconst (v := ki 5) hx hb dL_built_196 rfl ?_
    refine lv_bipush (v := ki 45) hx hb dL_built_197 rfl ?_
    refine kv_ast hx hb hK hP hD hS 0 0 rfl rfl (Nat.le_of_ble_eq_true rfl) (by decide) (by decide) dL_built_199 (fun H locs hP hD hS => ?_)
    have hP : va_P D vwCl (List.flatten [[(q168, .inl (cy 0, 21, .inl (upd (upd (upd (upd (upd (upd (fun _ => (0 : Int32)) (0 : Int).toNat (ki 100)) (1 : Int).toNat (ki 42)) (2 : Int).toNat (ki 50)) (3 : Int).toNat (ki 45)) (4 : Int).toNat (ki 97)) (5 : Int).toNat (ki 45))))], xW cy xtb a S147]) H := hP
    have hD : va_D A (List.flatten [[(q168, .inl (cy 0, 21, .inl (upd (upd (upd (upd (upd (upd (fun _ => (0 : Int32)) (0 : Int).toNat (ki 100)) (1 : Int).toNat (ki 42)) (2 : Int).toNat (ki 50)) (3 : Int).toNat (ki 45)) (4 : Int).toNat (ki 97)) (5 : Int).toNat (ki 45))))], xW cy xtb a S147]) := hD
    refine lv_dup hx hb dL_built_200 rfl ?_
    refine lv_bipush (v := ki 6) hx hb dL_built_201 rfl ?_
    refine lv_bipush (v := ki 115) hx hb dL_built_203 rfl ?_
    refine kv_ast hx hb hK hP hD hS 0 0 rfl rfl (Nat.le_of_ble_eq_true rfl) (by decide) (by decide) dL_built_205 (fun H locs hP hD hS => ?_)
    have hP : va_P D vwCl (List.flatten [[(q168, .inl (cy 0, 21, .inl (upd (upd (upd (upd (upd (upd (upd (fun _ => (0 : Int32)) (0 : Int).toNat (ki 100)) (1 : Int).toNat (ki 42)) (2 : Int).toNat (ki 50)) (3 : Int).toNat (ki 45)) (4 : Int).toNat (ki 97)) (5 : Int).toNat (ki 45)) (6 : Int).toNat (ki 115))))], xW cy xtb a S147]) H := hP
    have hD : va_D A (List.flatten [[(q168, .inl (cy 0, 21, .inl (upd (upd (upd (upd (upd (upd (upd (fun _ => (0 : Int32)) (0 : Int).toNat (ki 100)) (1 : Int).toNat (ki 42)) (2 : Int).toNat (ki 50)) (3 : Int).toNat (ki 45)) (4 : Int).toNat (ki 97)) (5 : Int).toNat (ki 45)) (6 : Int).toNat (ki 115))))], xW cy xtb a S147]) := hD
    refine lv_dup hx hb dL_built_206 rfl ?_
    refine lv_bipush (v := ki 7) hx hb dL_built_207 rfl ?_
    refine lv_bipush (v := ki 42) hx hb dL_built_209 rfl ?_
    refine kv_ast hx hb hK hP hD hS 0 0 rfl rfl (Nat.le_of_ble_eq_true rfl) (by decide) (by decide) dL_built_211 (fun H locs hP hD hS => ?_)
    have hP : va_P D vwCl (List.flatten [[(q168, .inl (cy 0, 21, .inl (upd (upd (upd (upd (upd (upd (upd (upd (fun _ => (0 : Int32)) (0 : Int).toNat (ki 100)) (1 : Int).toNat (ki 42)) (2 : Int).toNat (ki 50)) (3 : Int).toNat (ki 45)) (4 : Int).toNat (ki 97)) (5 : Int).toNat (ki 45)) (6 : Int).toNat (ki 115)) (7 : Int).toNat (ki 42))))], xW cy xtb a S147]) H := hP
    have hD : va_D A (List.flatten [[(q168, .inl (cy 0, 21, .inl (upd (upd (upd (upd (upd (upd (upd (upd (fun _ => (0 : Int32)) (0 : Int).toNat (ki 100)) (1 : Int).toNat (ki 42)) (2 : Int).toNat (ki 50)) (3 : Int).toNat (ki 45)) (4 : Int).toNat (ki 97)) (5 : Int).toNat (ki 45)) (6 : Int).toNat (ki 115)) (7 : Int).toNat (ki 42))))], xW cy xtb a S147]) := hD
    refine lv_dup hx hb dL_built_212 rfl ?_
    refine lv_bipush (v := ki 8) hx hb dL_built_213 rfl ?_
    refine lv_bipush (v := ki 52) hx hb dL_built_215 rfl ?_
    refine kv_ast hx hb hK hP hD hS 0 0 rfl rfl (Nat.le_of_ble_eq_true rfl) (by decide) (by decide) dL_built_217 (fun H locs hP hD hS => ?_)
    have hP : va_P D vwCl (List.flatten [[(q168, .inl (cy 0, 21, .inl (upd (upd (upd (upd (upd (upd (upd (upd (upd (fun _ => (0 : Int32)) (0 : Int).toNat (ki 100)) (1 : Int).toNat (ki 42)) (2 : Int).toNat (ki 50)) (3 : Int).toNat (ki 45)) (4 : Int).toNat (ki 97)) (5 : Int).toNat (ki 45)) (6 : Int).toNat (ki 115)) (7 : Int).toNat (ki 42)) (8 : Int).toNat (ki 52))))], xW cy xtb a S147]) H := hP
    have hD : va_D A (List.flatten [[(q168, .inl (cy 0, 21, .inl (upd (upd (upd (upd (upd (upd (upd (upd (upd (fun _ => (0 : Int32)) (0 : Int).toNat (ki 100)) (1 : Int).toNat (ki 42)) (2 : Int).toNat (ki 50)) (3 : Int).toNat (ki 45)) (4 : Int).toNat (ki 97)) (5 : Int).toNat (ki 45)) (6 : Int).toNat (ki 115)) (7 : Int).toNat (ki 42)) (8 : Int).toNat (ki 52))))], xW cy xtb a S147]) := hD
    refine lv_dup hx hb dL_built_218 rfl ?_
    refine lv_bipush (v := ki 9) hx hb dL_built_219 rfl ?_
    refine lv_bipush (v := ki 43) hx hb dL_built_221 rfl ?_
    refine kv_ast hx hb hK hP hD hS 0 0 rfl rfl (Nat.le_of_ble_eq_true rfl) (by decide) (by decide) dL_built_223 (fun H locs hP hD hS => ?_)
    have hP : va_P D vwCl (List.flatten [[(q168, .inl (cy 0, 21, .inl (upd (upd (upd (upd (upd (upd (upd (upd (upd (upd (fun _ => (0 : Int32)) (0 : Int).toNat (ki 100)) (1 : Int).toNat (ki 42)) (2 : Int).toNat (ki 50)) (3 : Int).toNat (ki 45)) (4 : Int).toNat (ki 97)) (5 : Int).toNat (ki 45)) (6 : Int).toNat (ki 115)) (7 : Int).toNat (ki 42)) (8 : Int).toNat (ki 52)) (9 : Int).toNat (ki 43))))], xW cy xtb a S147]) H := hP
    have hD : va_D A (List.flatten [[(q168, .inl (cy 0, 21, .inl (upd (upd (upd (upd (upd (upd (upd (upd (upd (upd (fun _ => (0 : Int32)) (0 : Int).toNat (ki 100)) (1 : Int).toNat (ki 42)) (2 : Int).toNat (ki 50)) (3 : Int).toNat (ki 45)) (4 : Int).toNat (ki 97)) (5 : Int).toNat (ki 45)) (6 : Int).toNat (ki 115)) (7 : Int).toNat (ki 42)) (8 : Int).toNat (ki 52)) (9 : Int).toNat (ki 43))))], xW cy xtb a S147]) := hD
    refine lv_dup hx hb dL_built_224 rfl ?_
    refine lv_bipush (v := ki 10) hx hb dL_built_225 rfl ?_
    refine lv_bipush (v := ki 40) hx hb dL_built_227 rfl ?_
    refine kv_ast hx hb hK hP hD hS 0 0 rfl rfl (Nat.le_of_ble_eq_true rfl) (by decide) (by decide) dL_built_229 (fun H locs hP hD hS => ?_)
    have hP : va_P D vwCl (List.flatten [[(q168, .inl (cy 0, 21, .inl (upd (upd (upd (upd (upd (upd (upd (upd (upd (upd (upd (fun _ => (0 : Int32)) (0 : Int).toNat (ki 100)) (1 : Int).toNat (ki 42)) (2 : Int).toNat (ki 50)) (3 : Int).toNat (ki 45)) (4 : Int).toNat (ki 97)) (5 : Int).toNat (ki 45)) (6 : Int).toNat (ki 115)) (7 : Int).toNat (ki 42)) (8 : Int).toNat (ki 52)) (9 : Int).toNat (ki 43)) (10 : Int).toNat (ki 40))))], xW cy xtb a S147]) H := hP
    have hD : va_D A (List.flatten [[(q168, .inl (cy 0, 21, .inl (upd (upd (upd (upd (upd (upd (upd (upd (upd (upd (upd (fun _ => (0 : Int32)) (0 : Int).toNat (ki 100)) (1 : Int).toNat (ki 42)) (2 : Int).toNat (ki 50)) (3 : Int).toNat (ki 45)) (4 : Int).toNat (ki 97)) (5 : Int).toNat (ki 45)) (6 : Int).toNat (ki 115)) (7 : Int).toNat (ki 42)) (8 : Int).toNat (ki 52)) (9 : Int).toNat (ki 43)) (10 : Int).toNat (ki 40))))], xW cy xtb a S147]) := hD
    refine lv_dup hx hb dL_built_230 rfl ?_
    refine lv_bipush (v := ki 11) hx hb dL_built_231 rfl ?_
    refine lv_bipush (v := ki 110) hx hb dL_built_233 rfl ?_
    refine kv_ast hx hb hK hP hD hS 0 0 rfl rfl (Nat.le_of_ble_eq_true rfl) (by decide) (by decide) dL_built_235 (fun H locs hP hD hS => ?_)
    have hP : va_P D vwCl (List.flatten [[(q168, .inl (cy 0, 21, .inl (upd (upd (upd (upd (upd (upd (upd (upd (upd (upd (upd (upd (fun _ => (0 : Int32)) (0 : Int).toNat (ki 100)) (1 : Int).toNat (ki 42)) (2 : Int).toNat (ki 50)) (3 : Int).toNat (ki 45)) (4 : Int).toNat (ki 97)) (5 : Int).toNat (ki 45)) (6 : Int).toNat (ki 115)) (7 : Int).toNat (ki 42)) (8 : Int).toNat (ki 52)) (9 : Int).toNat (ki 43)) (10 : Int).toNat (ki 40)) (11 : Int).toNat (ki 110))))], xW cy xtb a S147]) H := hP
    have hD : va_D A (List.flatten [[(q168, .inl (cy 0, 21, .inl (upd (upd (upd (upd (upd (upd (upd (upd (upd (upd (upd (upd (fun _ => (0 : Int32)) (0 : Int).toNat (ki 100)) (1 : Int).toNat (ki 42)) (2 : Int).toNat (ki 50)) (3 : Int).toNat (ki 45)) (4 : Int).toNat (ki 97)) (5 : Int).toNat (ki 45)) (6 : Int).toNat (ki 115)) (7 : Int).toNat (ki 42)) (8 : Int).toNat (ki 52)) (9 : Int).toNat (ki 43)) (10 : Int).toNat (ki 40)) (11 : Int).toNat (ki 110))))], xW cy xtb a S147]) := hD
    refine lv_dup hx hb dL_built_236 rfl ?_
    refine lv_bipush (v := ki 12) hx hb dL_built_237 rfl ?_
    refine lv_bipush (v := ki 45) hx hb dL_built_239 rfl ?_
    refine kv_ast hx hb hK hP hD hS 0 0 rfl rfl (Nat.le_of_ble_eq_true rfl) (by decide) (by decide) dL_built_241 (fun H locs hP hD hS => ?_)
    have hP : va_P D vwCl (List.flatten [[(q168, .inl (cy 0, 21, .inl (upd (upd (upd (upd (upd (upd (upd (upd (upd (upd (upd (upd (upd (fun _ => (0 : Int32)) (0 : Int).toNat (ki 100)) (1 : Int).toNat (ki 42)) (2 : Int).toNat (ki 50)) (3 : Int).toNat (ki 45)) (4 : Int).toNat (ki 97)) (5 : Int).toNat (ki 45)) (6 : Int).toNat (ki 115)) (7 : Int).toNat (ki 42)) (8 : Int).toNat (ki 52)) (9 : Int).toNat (ki 43)) (10 : Int).toNat (ki 40)) (11 : Int).toNat (ki 110)) (12 : Int).toNat (ki 45))))], xW cy xtb a S147]) H := hP
    have hD : va_D A (List.flatten [[(q168, .inl (cy 0, 21, .inl (upd (upd (upd (upd (upd (upd (upd (upd (upd (upd (upd (upd (upd (fun _ => (0 : Int32)) (0 : Int).toNat (ki 100)) (1 : Int).toNat (ki 42)) (2 : Int).toNat (ki 50)) (3 : Int).toNat (ki 45)) (4 : Int).toNat (ki 97)) (5 : Int).toNat (ki 45)) (6 : Int).toNat (ki 115)) (7 : Int).toNat (ki 42)) (8 : Int).toNat (ki 52)) (9 : Int).toNat (ki 43)) (10 : Int).toNat (ki 40)) (11 : Int).toNat (ki 110)) (12 : Int).toNat (ki 45))))], xW cy xtb a S147]) := hD
    refine lv_dup hx hb dL_built_242 rfl ?_
    refine lv_bipush (v := ki 13) hx hb dL_built_243 rfl ?_
    refine lv_bipush (v := ki 104) hx hb dL_built_245 rfl ?_
    refine kv_ast hx hb hK hP hD hS 0 0 rfl rfl (Nat.le_of_ble_eq_true rfl) (by decide) (by decide) dL_built_247 (fun H locs hP hD hS => ?_)
    have hP : va_P D vwCl (List.flatten [[(q168, .inl (cy 0, 21, .inl (upd (upd (upd (upd (upd (upd (upd (upd (upd (upd (upd (upd (upd (upd (fun _ => (0 : Int32)) (0 : Int).toNat (ki 100)) (1 : Int).toNat (ki 42)) (2 : Int).toNat (ki 50)) (3 : Int).toNat (ki 45)) (4 : Int).toNat (ki 97)) (5 : Int).toNat (ki 45)) (6 : Int).toNat (ki 115)) (7 : Int).toNat (ki 42)) (8 : Int).toNat (ki 52)) (9 : Int).toNat (ki 43)) (10 : Int).toNat (ki 40)) (11 : Int).toNat (ki 110)) (12 : Int).toNat (ki 45)) (13 : Int).toNat (ki 104))))], xW cy xtb a S147]) H := hP
    have hD : va_D A (List.flatten [[(q168, .inl (cy 0, 21, .inl (upd (upd (upd (upd (upd (upd (upd (upd (upd (upd (upd (upd (upd (upd (fun _ => (0 : Int32)) (0 : Int).toNat (ki 100)) (1 : Int).toNat (ki 42)) (2 : Int).toNat (ki 50)) (3 : Int).toNat (ki 45)) (4 : Int).toNat (ki 97)) (5 : Int).toNat (ki 45)) (6 : Int).toNat (ki 115)) (7 : Int).toNat (ki 42)) (8 : Int).toNat (ki 52)) (9 : Int).toNat (ki 43)) (10 : Int).toNat (ki 40)) (11 : Int).toNat (ki 110)) (12 : Int).toNat (ki 45)) (13 : Int).toNat (ki 104))))], xW cy xtb a S147]) := hD
    refine lv_dup hx hb dL_built_248 rfl ?_
    refine lv_bipush (v := ki 14) hx hb dL_built_249 rfl ?_
    refine lv_bipush (v := ki 41) hx hb dL_built_251 rfl ?_
    refine kv_ast hx hb hK hP hD hS 0 0 rfl rfl (Nat.le_of_ble_eq_true rfl) (by decide) (by decide) dL_built_253 (fun H locs hP hD hS => ?_)
    have hP : va_P D vwCl (List.flatten [[(q168, .inl (cy 0, 21, .inl (upd (upd (upd (upd (upd (upd (upd (upd (upd (upd (upd (upd (upd (upd (upd (fun _ => (0 : Int32)) (0 : Int).toNat (ki 100)) (1 : Int).toNat (ki 42)) (2 : Int).toNat (ki 50)) (3 : Int).toNat (ki 45)) (4 : Int).toNat (ki 97)) (5 : Int).toNat (ki 45)) (6 : Int).toNat (ki 115)) (7 : Int).toNat (ki 42)) (8 : Int).toNat (ki 52)) (9 : Int).toNat (ki 43)) (10 : Int).toNat (ki 40)) (11 : Int).toNat (ki 110)) (12 : Int).toNat (ki 45)) (13 : Int).toNat (ki 104)) (14 : Int).toNat (ki 41))))], xW cy xtb a S147]) H := hP
    have hD : va_D A (List.flatten [[(q168, .inl (cy 0, 21, .inl (upd (upd (upd (upd (upd (upd (upd (upd (upd (upd (upd (upd (upd (upd (upd (fun _ => (0 : Int32)) (0 : Int).toNat (ki 100)) (1 : Int).toNat (ki 42)) (2 : Int).toNat (ki 50)) (3 : Int).toNat (ki 45)) (4 : Int).toNat (ki 97)) (5 : Int).toNat (ki 45)) (6 : Int).toNat (ki 115)) (7 : Int).toNat (ki 42)) (8 : Int).toNat (ki 52)) (9 : Int).toNat (ki 43)) (10 : Int).toNat (ki 40)) (11 : Int).toNat (ki 110)) (12 : Int).toNat (ki 45)) (13 : Int).toNat (ki 104)) (14 : Int).toNat (ki 41))))], xW cy xtb a S147]) := hD
    refine lv_dup hx hb dL_built_254 rfl ?_
    refine lv_bipush (v := ki 15) hx hb dL_built_255 rfl ?_
    refine lv_bipush (v := ki 47) hx hb dL_built_257 rfl ?_
    refine kv_ast hx hb hK hP hD hS 0 0 rfl rfl (Nat.le_of_ble_eq_true rfl) (by decide) (by decide) dL_built_259 (fun H locs hP hD hS => ?_)
    have hP : va_P D vwCl (List.flatten [[(q168, .inl (cy 0, 21, .inl (upd (upd (upd (upd (upd (upd (upd (upd (upd (upd (upd (upd (upd (upd (upd (upd (fun _ => (0 : Int32)) (0 : Int).toNat (ki 100)) (1 : Int).toNat (ki 42)) (2 : Int).toNat (ki 50)) (3 : Int).toNat (ki 45)) (4 : Int).toNat (ki 97)) (5 : Int).toNat (ki 45)) (6 : Int).toNat (ki 115)) (7 : Int).toNat (ki 42)) (8 : Int).toNat (ki 52)) (9 : Int).toNat (ki 43)) (10 : Int).toNat (ki 40)) (11 : Int).toNat (ki 110)) (12 : Int).toNat (ki 45)) (13 : Int).toNat (ki 104)) (14 : Int).toNat (ki 41)) (15 : Int).toNat (ki 47))))], xW cy xtb a S147]) H := hP
    have hD : va_D A (List.flatten [[(q168, .inl (cy 0, 21, .inl (upd (upd (upd (upd (upd (upd (upd (upd (upd (upd (upd (upd (upd (upd (upd (upd (fun _ => (0 : Int32)) (0 : Int).toNat (ki 100)) (1 : Int).toNat (ki 42)) (2 : Int).toNat (ki 50)) (3 : Int).toNat (ki 45)) (4 : Int).toNat (ki 97)) (5 : Int).toNat (ki 45)) (6 : Int).toNat (ki 115)) (7 : Int).toNat (ki 42)) (8 : Int).toNat (ki 52)) (9 : Int).toNat (ki 43)) (10 : Int).toNat (ki 40)) (11 : Int).toNat (ki 110)) (12 : Int).toNat (ki 45)) (13 : Int).toNat (ki 104)) (14 : Int).toNat (ki 41)) (15 : Int).toNat (ki 47))))], xW cy xtb a S147]) := hD
    refine lv_dup hx hb dL_built_260 rfl ?_
    refine lv_bipush (v := ki 16) hx hb dL_built_261 rfl ?_
    refine lv_bipush (v := ki 53) hx hb dL_built_263 rfl ?_
    refine kv_ast hx hb hK hP hD hS 0 0 rfl rfl (Nat.le_of_ble_eq_true rfl) (by decide) (by decide) dL_built_265 (fun H locs hP hD hS => ?_)
    have hP : va_P D vwCl (List.flatten [[(q168, .inl (cy 0, 21, .inl (upd (upd (upd (upd (upd (upd (upd (upd (upd (upd (upd (upd (upd (upd (upd (upd (upd (fun _ => (0 : Int32)) (0 : Int).toNat (ki 100)) (1 : Int).toNat (ki 42)) (2 : Int).toNat (ki 50)) (3 : Int).toNat (ki 45)) (4 : Int).toNat (ki 97)) (5 : Int).toNat (ki 45)) (6 : Int).toNat (ki 115)) (7 : Int).toNat (ki 42)) (8 : Int).toNat (ki 52)) (9 : Int).toNat (ki 43)) (10 : Int).toNat (ki 40)) (11 : Int).toNat (ki 110)) (12 : Int).toNat (ki 45)) (13 : Int).toNat (ki 104)) (14 : Int).toNat (ki 41)) (15 : Int).toNat (ki 47)) (16 : Int).toNat (ki 53))))], xW cy xtb a S147]) H := hP
    have hD : va_D A (List.flatten [[(q168, .inl (cy 0, 21, .inl (upd (upd (upd (upd (upd (upd (upd (upd (upd (upd (upd (upd (upd (upd (upd (upd (upd (fun _ => (0 : Int32)) (0 : Int).toNat (ki 100)) (1 : Int).toNat (ki 42)) (2 : Int).toNat (ki 50)) (3 : Int).toNat (ki 45)) (4 : Int).toNat (ki 97)) (5 : Int).toNat (ki 45)) (6 : Int).toNat (ki 115)) (7 : Int).toNat (ki 42)) (8 : Int).toNat (ki 52)) (9 : Int).toNat (ki 43)) (10 : Int).toNat (ki 40)) (11 : Int).toNat (ki 110)) (12 : Int).toNat (ki 45)) (13 : Int).toNat (ki 104)) (14 : Int).toNat (ki 41)) (15 : Int).toNat (ki 47)) (16 : Int).toNat (ki 53))))], xW cy xtb a S147]) := hD
    refine lv_dup hx hb dL_built_266 rfl ?_
    refine lv_bipush (v := ki 17) hx hb dL_built_267 rfl ?_
    refine lv_bipush (v := ki 43) hx hb dL_built_269 rfl ?_
    refine kv_ast hx hb hK hP hD hS 0 0 rfl rfl (Nat.le_of_ble_eq_true rfl) (by decide) (by decide) dL_built_271 (fun H locs hP hD hS => ?_)
    have hP : va_P D vwCl (List.flatten [[(q168, .inl (cy 0, 21, .inl (upd (upd (upd (upd (upd (upd (upd (upd (upd (upd (upd (upd (upd (upd (upd (upd (upd (upd (fun _ => (0 : Int32)) (0 : Int).toNat (ki 100)) (1 : Int).toNat (ki 42)) (2 : Int).toNat (ki 50)) (3 : Int).toNat (ki 45)) (4 : Int).toNat (ki 97)) (5 : Int).toNat (ki 45)) (6 : Int).toNat (ki 115)) (7 : Int).toNat (ki 42)) (8 : Int).toNat (ki 52)) (9 : Int).toNat (ki 43)) (10 : Int).toNat (ki 40)) (11 : Int).toNat (ki 110)) (12 : Int).toNat (ki 45)) (13 : Int).toNat (ki 104)) (14 : Int).toNat (ki 41)) (15 : Int).toNat (ki 47)) (16 : Int).toNat (ki 53)) (17 : Int).toNat (ki 43))))], xW cy xtb a S147]) H := hP
    have hD : va_D A (List.flatten [[(q168, .inl (cy 0, 21, .inl (upd (upd (upd (upd (upd (upd (upd (upd (upd (upd (upd (upd (upd (upd (upd (upd (upd (upd (fun _ => (0 : Int32)) (0 : Int).toNat (ki 100)) (1 : Int).toNat (ki 42)) (2 : Int).toNat (ki 50)) (3 : Int).toNat (ki 45)) (4 : Int).toNat (ki 97)) (5 : Int).toNat (ki 45)) (6 : Int).toNat (ki 115)) (7 : Int).toNat (ki 42)) (8 : Int).toNat (ki 52)) (9 : Int).toNat (ki 43)) (10 : Int).toNat (ki 40)) (11 : Int).toNat (ki 110)) (12 : Int).toNat (ki 45)) (13 : Int).toNat (ki 104)) (14 : Int).toNat (ki 41)) (15 : Int).toNat (ki 47)) (16 : Int).toNat (ki 53)) (17 : Int).toNat (ki 43))))], xW cy xtb a S147]) := hD
    refine lv_dup hx hb dL_built_272 rfl ?_
    refine lv_bipush (v := ki 18) hx hb dL_built_273 rfl ?_
    refine lv_bipush (v := ki 108) hx hb dL_built_275 rfl ?_
    refine kv_ast hx hb hK hP hD hS 0 0 rfl rfl (Nat.le_of_ble_eq_true rfl) (by decide) (by decide) dL_built_277 (fun H locs hP hD hS => ?_)
    have hP : va_P D vwCl (List.flatten [[(q168, .inl (cy 0, 21, .inl (upd (upd (upd (upd (upd (upd (upd (upd (upd (upd (upd (upd (upd (upd (upd (upd (upd (upd (upd (fun _ => (0 : Int32)) (0 : Int).toNat (ki 100)) (1 : Int).toNat (ki 42)) (2 : Int).toNat (ki 50)) (3 : Int).toNat (ki 45)) (4 : Int).toNat (ki 97)) (5 : Int).toNat (ki 45)) (6 : Int).toNat (ki 115)) (7 : Int).toNat (ki 42)) (8 : Int).toNat (ki 52)) (9 : Int).toNat (ki 43)) (10 : Int).toNat (ki 40)) (11 : Int).toNat (ki 110)) (12 : Int).toNat (ki 45)) (13 : Int).toNat (ki 104)) (14 : Int).toNat (ki 41)) (15 : Int).toNat (ki 47)) (16 : Int).toNat (ki 53)) (17 : Int).toNat (ki 43)) (18 : Int).toNat (ki 108))))], xW cy xtb a S147]) H := hP
    have hD : va_D A (List.flatten [[(q168, .inl (cy 0, 21, .inl (upd (upd (upd (upd (upd (upd (upd (upd (upd (upd (upd (upd (upd (upd (upd (upd (upd (upd (upd (fun _ => (0 : Int32)) (0 : Int).toNat (ki 100)) (1 : Int).toNat (ki 42)) (2 : Int).toNat (ki 50)) (3 : Int).toNat (ki 45)) (4 : Int).toNat (ki 97)) (5 : Int).toNat (ki 45)) (6 : Int).toNat (ki 115)) (7 : Int).toNat (ki 42)) (8 : Int).toNat (ki 52)) (9 : Int).toNat (ki 43)) (10 : Int).toNat (ki 40)) (11 : Int).toNat (ki 110)) (12 : Int).toNat (ki 45)) (13 : Int).toNat (ki 104)) (14 : Int).toNat (ki 41)) (15 : Int).toNat (ki 47)) (16 : Int).toNat (ki 53)) (17 : Int).toNat (ki 43)) (18 : Int).toNat (ki 108))))], xW cy xtb a S147]) := hD
    refine lv_dup hx hb dL_built_278 rfl ?_
    refine lv_bipush (v := ki 19) hx hb dL_built_279 rfl ?_
    refine lv_bipush (v := ki 37) hx hb dL_built_281 rfl ?_
    refine kv_ast hx hb hK hP hD hS 0 0 rfl rfl (Nat.le_of_ble_eq_true rfl) (by decide) (by decide) dL_built_283 (fun H locs hP hD hS => ?_)
    have hP : va_P D vwCl (List.flatten [[(q168, .inl (cy 0, 21, .inl (upd (upd (upd (upd (upd (upd (upd (upd (upd (upd (upd (upd (upd (upd (upd (upd (upd (upd (upd (upd (fun _ => (0 : Int32)) (0 : Int).toNat (ki 100)) (1 : Int).toNat (ki 42)) (2 : Int).toNat (ki 50)) (3 : Int).toNat (ki 45)) (4 : Int).toNat (ki 97)) (5 : Int).toNat (ki 45)) (6 : Int).toNat (ki 115)) (7 : Int).toNat (ki 42)) (8 : Int).toNat (ki 52)) (9 : Int).toNat (ki 43)) (10 : Int).toNat (ki 40)) (11 : Int).toNat (ki 110)) (12 : Int).toNat (ki 45)) (13 : Int).toNat (ki 104)) (14 : Int).toNat (ki 41)) (15 : Int).toNat (ki 47)) (16 : Int).toNat (ki 53)) (17 : Int).toNat (ki 43)) (18 : Int).toNat (ki 108)) (19 : Int).toNat (ki 37))))], xW cy xtb a S147]) H := hP
    have hD : va_D A (List.flatten [[(q168, .inl (cy 0, 21, .inl (upd (upd (upd (upd (upd (upd (upd (upd (upd (upd (upd (upd (upd (upd (upd (upd (upd (upd (upd (upd (fun _ => (0 : Int32)) (0 : Int).toNat (ki 100)) (1 : Int).toNat (ki 42)) (2 : Int).toNat (ki 50)) (3 : Int).toNat (ki 45)) (4 : Int).toNat (ki 97)) (5 : Int).toNat (ki 45)) (6 : Int).toNat (ki 115)) (7 : Int).toNat (ki 42)) (8 : Int).toNat (ki 52)) (9 : Int).toNat (ki 43)) (10 : Int).toNat (ki 40)) (11 : Int).toNat (ki 110)) (12 : Int).toNat (ki 45)) (13 : Int).toNat (ki 104)) (14 : Int).toNat (ki 41)) (15 : Int).toNat (ki 47)) (16 : Int).toNat (ki 53)) (17 : Int).toNat (ki 43)) (18 : Int).toNat (ki 108)) (19 : Int).toNat (ki 37))))], xW cy xtb a S147]) := hD
    refine lv_dup hx hb dL_built_284 rfl ?_
    refine lv_bipush (v := ki 20) hx hb dL_built_285 rfl ?_
    refine lv_bipush (v := ki 50) hx hb dL_built_287 rfl ?_
    refine kv_ast hx hb hK hP hD hS 0 0 rfl rfl (Nat.le_of_ble_eq_true rfl) (by decide) (by decide) dL_built_289 (fun H locs hP hD hS => ?_)
    have hP : va_P D vwCl (List.flatten [[(q168, .inl (cy 0, 21, .inl (upd (upd (upd (upd (upd (upd (upd (upd (upd (upd (upd (upd (upd (upd (upd (upd (upd (upd (upd (upd (upd (fun _ => (0 : Int32)) (0 : Int).toNat (ki 100)) (1 : Int).toNat (ki 42)) (2 : Int).toNat (ki 50)) (3 : Int).toNat (ki 45)) (4 : Int).toNat (ki 97)) (5 : Int).toNat (ki 45)) (6 : Int).toNat (ki 115)) (7 : Int).toNat (ki 42)) (8 : Int).toNat (ki 52)) (9 : Int).toNat (ki 43)) (10 : Int).toNat (ki 40)) (11 : Int).toNat (ki 110)) (12 : Int).toNat (ki 45)) (13 : Int).toNat (ki 104)) (14 : Int).toNat (ki 41)) (15 : Int).toNat (ki 47)) (16 : Int).toNat (ki 53)) (17 : Int).toNat (ki 43)) (18 : Int).toNat (ki 108)) (19 : Int).toNat (ki 37)) (20 : Int).toNat (ki 50))))], xW cy xtb a S147]) H := hP
    have hD : va_D A (List.flatten [[(q168, .inl (cy 0, 21, .inl (upd (upd (upd (upd (upd (upd (upd (upd (upd (upd (upd (upd (upd (upd (upd (upd (upd (upd (upd (upd (upd (fun _ => (0 : Int32)) (0 : Int).toNat (ki 100)) (1 : Int).toNat (ki 42)) (2 : Int).toNat (ki 50)) (3 : Int).toNat (ki 45)) (4 : Int).toNat (ki 97)) (5 : Int).toNat (ki 45)) (6 : Int).toNat (ki 115)) (7 : Int).toNat (ki 42)) (8 : Int).toNat (ki 52)) (9 : Int).toNat (ki 43)) (10 : Int).toNat (ki 40)) (11 : Int).toNat (ki 110)) (12 : Int).toNat (ki 45)) (13 : Int).toNat (ki 104)) (14 : Int).toNat (ki 41)) (15 : Int).toNat (ki 47)) (16 : Int).toNat (ki 53)) (17 : Int).toNat (ki 43)) (18 : Int).toNat (ki 108)) (19 : Int).toNat (ki 37)) (20 : Int).toNat (ki 50))))], xW cy xtb a S147]) := hD
    have hfq : ∀ j : Nat, j < 21 → (upd (upd (upd (upd (upd (upd (upd (upd (upd (upd (upd (upd (upd (upd (upd (upd (upd (upd (upd (upd (upd (fun _ => (0 : Int32)) (0 : Int).toNat (ki 100)) (1 : Int).toNat (ki 42)) (2 : Int).toNat (ki 50)) (3 : Int).toNat (ki 45)) (4 : Int).toNat (ki 97)) (5 : Int).toNat (ki 45)) (6 : Int).toNat (ki 115)) (7 : Int).toNat (ki 42)) (8 : Int).toNat (ki 52)) (9 : Int).toNat (ki 43)) (10 : Int).toNat (ki 40)) (11 : Int).toNat (ki 110)) (12 : Int).toNat (ki 45)) (13 : Int).toNat (ki 104)) (14 : Int).toNat (ki 41)) (15 : Int).toNat (ki 47)) (16 : Int).toNat (ki 53)) (17 : Int).toNat (ki 43)) (18 : Int).toNat (ki 108)) (19 : Int).toNat (ki 37)) (20 : Int).toNat (ki 50)) j = ki (tx9 (j : Int)) := by decide +kernel
    have ht0 : xT tx9 0 S147 := ⟨ht, fun z z0 z1 => by omega⟩
    refine lv_astore_n (lv' := [(2, .ref q168), (0, .ref (a 0)), (1, .ref b)]) hx hb dL_built_290 rfl hl (by decide) rfl (fun ls hl => ?_)
    refine lv_aload_n hx hb dL_built_291 rfl (lv_at hl 1 rfl) ?_
    refine lv_aload_n hx hb dL_built_292 rfl (lv_at hl 0 rfl) ?_
    refine lv_aload_n hx hb dL_built_293 rfl (lv_at hl 0 rfl) ?_
    refine va_alen (v := ki 21) hx hb hK hP 0 0 rfl rfl rfl dL_built_294 ?_
    have hPc : va_P D vwCl (([] : va_W) ++ (List.flatten [[(q168, .inl (cy 0, 21, .inl (upd (upd (upd (upd (upd (upd (upd (upd (upd (upd (upd (upd (upd (upd (upd (upd (upd (upd (upd (upd (upd (fun _ => (0 : Int32)) (0 : Int).toNat (ki 100)) (1 : Int).toNat (ki 42)) (2 : Int).toNat (ki 50)) (3 : Int).toNat (ki 45)) (4 : Int).toNat (ki 97)) (5 : Int).toNat (ki 45)) (6 : Int).toNat (ki 115)) (7 : Int).toNat (ki 42)) (8 : Int).toNat (ki 52)) (9 : Int).toNat (ki 43)) (10 : Int).toNat (ki 40)) (11 : Int).toNat (ki 110)) (12 : Int).toNat (ki 45)) (13 : Int).toNat (ki 104)) (14 : Int).toNat (ki 41)) (15 : Int).toNat (ki 47)) (16 : Int).toNat (ki 53)) (17 : Int).toNat (ki 43)) (18 : Int).toNat (ki 108)) (19 : Int).toNat (ki 37)) (20 : Int).toNat (ki 50))))], xW cy xtb a S147])) _ := hP
    have hDc : va_D A (([] : va_W) ++ (List.flatten [[(q168, .inl (cy 0, 21, .inl (upd (upd (upd (upd (upd (upd (upd (upd (upd (upd (upd (upd (upd (upd (upd (upd (upd (upd (upd (upd (upd (fun _ => (0 : Int32)) (0 : Int).toNat (ki 100)) (1 : Int).toNat (ki 42)) (2 : Int).toNat (ki 50)) (3 : Int).toNat (ki 45)) (4 : Int).toNat (ki 97)) (5 : Int).toNat (ki 45)) (6 : Int).toNat (ki 115)) (7 : Int).toNat (ki 42)) (8 : Int).toNat (ki 52)) (9 : Int).toNat (ki 43)) (10 : Int).toNat (ki 40)) (11 : Int).toNat (ki 110)) (12 : Int).toNat (ki 45)) (13 : Int).toNat (ki 104)) (14 : Int).toNat (ki 41)) (15 : Int).toNat (ki 47)) (16 : Int).toNat (ki 53)) (17 : Int).toNat (ki 43)) (18 : Int).toNat (ki 108)) (19 : Int).toNat (ki 37)) (20 : Int).toNat (ki 50))))], xW cy xtb a S147])) := hD
    refine kc_Si (n := 3) hx hb hml hown hts (⟨xw_mem 966 (by decide +kernel) rfl, xw_mem 29 (by decide +kernel) rfl, xw_mem 964 (by decide +kernel) rfl, by decide +kernel⟩ : xML RL 50 yL_tell cL_tell 4 (some .boolean) 3) (xw_mem 965 (by decide +kernel) rfl) (wc := List.flatten [[(q168, .inl (cy 0, 21, .inl (upd (upd (upd (upd (upd (upd (upd (upd (upd (upd (upd (upd (upd (upd (upd (upd (upd (upd (upd (upd (upd (fun _ => (0 : Int32)) (0 : Int).toNat (ki 100)) (1 : Int).toNat (ki 42)) (2 : Int).toNat (ki 50)) (3 : Int).toNat (ki 45)) (4 : Int).toNat (ki 97)) (5 : Int).toNat (ki 45)) (6 : Int).toNat (ki 115)) (7 : Int).toNat (ki 42)) (8 : Int).toNat (ki 52)) (9 : Int).toNat (ki 43)) (10 : Int).toNat (ki 40)) (11 : Int).toNat (ki 110)) (12 : Int).toNat (ki 45)) (13 : Int).toNat (ki 104)) (14 : Int).toNat (ki 41)) (15 : Int).toNat (ki 47)) (16 : Int).toNat (ki 53)) (17 : Int).toNat (ki 43)) (18 : Int).toNat (ki 108)) (19 : Int).toNat (ki 37)) (20 : Int).toNat (ki 50))))], xW cy xtb a S147]) hPc hDc hS hA [.ref (a 0), .ref q168, .int (ki 21)] (rest := []) _ _ (c_L_tell (S := S147) (η := telS 0 6 (gwS L xs) η) (gn := gn0) hfq hB ht0 _) gP_bl (fun U hU hW => gP_to (wr := []) (bs := [[(q168, .inl (cy 0, 21, .inl (upd (upd (upd (upd (upd (upd (upd (upd (upd (upd (upd (upd (upd (upd (upd (upd (upd (upd (upd (upd (upd (fun _ => (0 : Int32)) (0 : Int).toNat (ki 100)) (1 : Int).toNat (ki 42)) (2 : Int).toNat (ki 50)) (3 : Int).toNat (ki 45)) (4 : Int).toNat (ki 97)) (5 : Int).toNat (ki 45)) (6 : Int).toNat (ki 115)) (7 : Int).toNat (ki 42)) (8 : Int).toNat (ki 52)) (9 : Int).toNat (ki 43)) (10 : Int).toNat (ki 40)) (11 : Int).toNat (ki 110)) (12 : Int).toNat (ki 45)) (13 : Int).toNat (ki 104)) (14 : Int).toNat (ki 41)) (15 : Int).toNat (ki 47)) (16 : Int).toNat (ki 53)) (17 : Int).toNat (ki 43)) (18 : Int).toNat (ki 108)) (19 : Int).toNat (ki 37)) (20 : Int).toNat (ki 50))))]]) (S := S147) hPc hDc hS hA hK hN hZ hX hbl hbA hNs hEx hU hW) ⟨Nat.le_of_ble_eq_true rfl, Nat.le_of_ble_eq_true rfl⟩ (Nat.le_of_ble_eq_true rfl) (Nat.le_of_ble_eq_true rfl) rfl hl.1 rfl (Nat.le_of_ble_eq_true (rfl)) dL_built_295 (fun r u t H locs ht9 hw hB9 hz hJ hS => ?_)
    subst hw
    obtain ⟨hB, ht, hP1, hD1⟩ := hB9
    rw [ht9] at hP1
    obtain ⟨hP, hD⟩ := hJ _ hP1 hD1
    have hP : va_P D vwCl (List.flatten [[(q168, .inl (cy 0, 21, .inl (upd (upd (upd (upd (upd (upd (upd (upd (upd (upd (upd (upd (upd (upd (upd (upd (upd (upd (upd (upd (upd (fun _ => (0 : Int32)) (0 : Int).toNat (ki 100)) (1 : Int).toNat (ki 42)) (2 : Int).toNat (ki 50)) (3 : Int).toNat (ki 45)) (4 : Int).toNat (ki 97)) (5 : Int).toNat (ki 45)) (6 : Int).toNat (ki 115)) (7 : Int).toNat (ki 42)) (8 : Int).toNat (ki 52)) (9 : Int).toNat (ki 43)) (10 : Int).toNat (ki 40)) (11 : Int).toNat (ki 110)) (12 : Int).toNat (ki 45)) (13 : Int).toNat (ki 104)) (14 : Int).toNat (ki 41)) (15 : Int).toNat (ki 47)) (16 : Int).toNat (ki 53)) (17 : Int).toNat (ki 43)) (18 : Int).toNat (ki 108)) (19 : Int).toNat (ki 37)) (20 : Int).toNat (ki 50))))], xW cy xtb a u]) H := hP
    have hD : va_D A (List.flatten [[(q168, .inl (cy 0, 21, .inl (upd (upd (upd (upd (upd (upd (upd (upd (upd (upd (upd (upd (upd (upd (upd (upd (upd (upd (upd (upd (upd (fun _ => (0 : Int32)) (0 : Int).toNat (ki 100)) (1 : Int).toNat (ki 42)) (2 : Int).toNat (ki 50)) (3 : Int).toNat (ki 45)) (4 : Int).toNat (ki 97)) (5 : Int).toNat (ki 45)) (6 : Int).toNat (ki 115)) (7 : Int).toNat (ki 42)) (8 : Int).toNat (ki 52)) (9 : Int).toNat (ki 43)) (10 : Int).toNat (ki 40)) (11 : Int).toNat (ki 110)) (12 : Int).toNat (ki 45)) (13 : Int).toNat (ki 104)) (14 : Int).toNat (ki 41)) (15 : Int).toNat (ki 47)) (16 : Int).toNat (ki 53)) (17 : Int).toNat (ki 43)) (18 : Int).toNat (ki 108)) (19 : Int).toNat (ki 37)) (20 : Int).toNat (ki 50))))], xW cy xtb a u]) := hD
    refine kv_if_eq_f (tgt := 313) hx hb (by omega) (by omega) (by omega) dL_built_298 (by decide) ?_
    refine lv_aload_n hx hb dL_built_301 rfl (lv_at hl 1 rfl) ?_
    obtain ⟨⟨S302, v302⟩, hf302, hq302⟩ := t_law (S := u) hB ht
    dsimp only at hq302
    obtain ⟨hv9, gn9, hB⟩ := hq302
    subst hv9
    have hPc := blk_P (bs := ([[(q168, .inl (cy 0, 21, .inl (upd (upd (upd (upd (upd (upd (upd (upd (upd (upd (upd (upd (upd (upd (upd (upd (upd (upd (upd (upd (upd (fun _ => (0 : Int32)) (0 : Int).toNat (ki 100)) (1 : Int).toNat (ki 42)) (2 : Int).toNat (ki 50)) (3 : Int).toNat (ki 45)) (4 : Int).toNat (ki 97)) (5 : Int).toNat (ki 45)) (6 : Int).toNat (ki 115)) (7 : Int).toNat (ki 42)) (8 : Int).toNat (ki 52)) (9 : Int).toNat (ki 43)) (10 : Int).toNat (ki 40)) (11 : Int).toNat (ki 110)) (12 : Int).toNat (ki 45)) (13 : Int).toNat (ki 104)) (14 : Int).toNat (ki 41)) (15 : Int).toNat (ki 47)) (16 : Int).toNat (ki 53)) (17 : Int).toNat (ki 43)) (18 : Int).toNat (ki 108)) (19 : Int).toNat (ki 37)) (20 : Int).toNat (ki 50))))], xW cy xtb a u] : List va_W)) (rs := ([[(q168, .inl (cy 0, 21, .inl (upd (upd (upd (upd (upd (upd (upd (upd (upd (upd (upd (upd (upd (upd (upd (upd (upd (upd (upd (upd (upd (fun _ => (0 : Int32)) (0 : Int).toNat (ki 100)) (1 : Int).toNat (ki 42)) (2 : Int).toNat (ki 50)) (3 : Int).toNat (ki 45)) (4 : Int).toNat (ki 97)) (5 : Int).toNat (ki 45)) (6 : Int).toNat (ki 115)) (7 : Int).toNat (ki 42)) (8 : Int).toNat (ki 52)) (9 : Int).toNat (ki 43)) (10 : Int).toNat (ki 40)) (11 : Int).toNat (ki 110)) (12 : Int).toNat (ki 45)) (13 : Int).toNat (ki 104)) (14 : Int).toNat (ki 41)) (15 : Int).toNat (ki 47)) (16 : Int).toNat (ki 53)) (17 : Int).toNat (ki 43)) (18 : Int).toNat (ki 108)) (19 : Int).toNat (ki 37)) (20 : Int).toNat (ki 50))))]] : List va_W)) (x := xW cy xtb a u) 1 rfl rfl hP
    have hDc := blk_D (bs := ([[(q168, .inl (cy 0, 21, .inl (upd (upd (upd (upd (upd (upd (upd (upd (upd (upd (upd (upd (upd (upd (upd (upd (upd (upd (upd (upd (upd (fun _ => (0 : Int32)) (0 : Int).toNat (ki 100)) (1 : Int).toNat (ki 42)) (2 : Int).toNat (ki 50)) (3 : Int).toNat (ki 45)) (4 : Int).toNat (ki 97)) (5 : Int).toNat (ki 45)) (6 : Int).toNat (ki 115)) (7 : Int).toNat (ki 42)) (8 : Int).toNat (ki 52)) (9 : Int).toNat (ki 43)) (10 : Int).toNat (ki 40)) (11 : Int).toNat (ki 110)) (12 : Int).toNat (ki 45)) (13 : Int).toNat (ki 104)) (14 : Int).toNat (ki 41)) (15 : Int).toNat (ki 47)) (16 : Int).toNat (ki 53)) (17 : Int).toNat (ki 43)) (18 : Int).toNat (ki 108)) (19 : Int).toNat (ki 37)) (20 : Int).toNat (ki 50))))], xW cy xtb a u] : List va_W)) (rs := ([[(q168, .inl (cy 0, 21, .inl (upd (upd (upd (upd (upd (upd (upd (upd (upd (upd (upd (upd (upd (upd (upd (upd (upd (upd (upd (upd (upd (fun _ => (0 : Int32)) (0 : Int).toNat (ki 100)) (1 : Int).toNat (ki 42)) (2 : Int).toNat (ki 50)) (3 : Int).toNat (ki 45)) (4 : Int).toNat (ki 97)) (5 : Int).toNat (ki 45)) (6 : Int).toNat (ki 115)) (7 : Int).toNat (ki 42)) (8 : Int).toNat (ki 52)) (9 : Int).toNat (ki 43)) (10 : Int).toNat (ki 40)) (11 : Int).toNat (ki 110)) (12 : Int).toNat (ki 45)) (13 : Int).toNat (ki 104)) (14 : Int).toNat (ki 41)) (15 : Int).toNat (ki 47)) (16 : Int).toNat (ki 53)) (17 : Int).toNat (ki 43)) (18 : Int).toNat (ki 108)) (19 : Int).toNat (ki 37)) (20 : Int).toNat (ki 50))))]] : List va_W)) (x := xW cy xtb a u) 1 rfl rfl hD
    refine lw_vi hx hb hml hown hts (K_sub hK) hEx hI hPc hDc hS hA (⟨xw_mem 978 (by decide +kernel) rfl, xw_mem 30 (by decide +kernel) rfl, xw_mem 975 (by decide +kernel) rfl, by decide +kernel⟩ : xML RL 54 yX11_law cX11_law 2 (some .int) 0) (xw_mem 976 (by decide +kernel) rfl) (xw_mem 977 (by decide +kernel) rfl) (he := rfl) (by decide) rfl [] (rest := []) (c_X11_law hI hf302 _) ⟨Nat.le_of_ble_eq_true rfl, Nat.le_of_ble_eq_true rfl⟩ ⟨Nat.le_of_ble_eq_true rfl, Nat.le_of_ble_eq_true rfl⟩ rfl hl.1 rfl (Nat.le_of_ble_eq_true (rfl)) dL_built_302 (fun H locs hPn hS => ?_)
    have hDn := xD_st (S' := S302) hDc
    have hP := blk_P2 (bs := ([[(q168, .inl (cy 0, 21, .inl (upd (upd (upd (upd (upd (upd (upd (upd (upd (upd (upd (upd (upd (upd (upd (upd (upd (upd (upd (upd (upd (fun _ => (0 : Int32)) (0 : Int).toNat (ki 100)) (1 : Int).toNat (ki 42)) (2 : Int).toNat (ki 50)) (3 : Int).toNat (ki 45)) (4 : Int).toNat (ki 97)) (5 : Int).toNat (ki 45)) (6 : Int).toNat (ki 115)) (7 : Int).toNat (ki 42)) (8 : Int).toNat (ki 52)) (9 : Int).toNat (ki 43)) (10 : Int).toNat (ki 40)) (11 : Int).toNat (ki 110)) (12 : Int).toNat (ki 45)) (13 : Int).toNat (ki 104)) (14 : Int).toNat (ki 41)) (15 : Int).toNat (ki 47)) (16 : Int).toNat (ki 53)) (17 : Int).toNat (ki 43)) (18 : Int).toNat (ki 108)) (19 : Int).toNat (ki 37)) (20 : Int).toNat (ki 50))))], xW cy xtb a S302] : List va_W)) (rs := ([[(q168, .inl (cy 0, 21, .inl (upd (upd (upd (upd (upd (upd (upd (upd (upd (upd (upd (upd (upd (upd (upd (upd (upd (upd (upd (upd (upd (fun _ => (0 : Int32)) (0 : Int).toNat (ki 100)) (1 : Int).toNat (ki 42)) (2 : Int).toNat (ki 50)) (3 : Int).toNat (ki 45)) (4 : Int).toNat (ki 97)) (5 : Int).toNat (ki 45)) (6 : Int).toNat (ki 115)) (7 : Int).toNat (ki 42)) (8 : Int).toNat (ki 52)) (9 : Int).toNat (ki 43)) (10 : Int).toNat (ki 40)) (11 : Int).toNat (ki 110)) (12 : Int).toNat (ki 45)) (13 : Int).toNat (ki 104)) (14 : Int).toNat (ki 41)) (15 : Int).toNat (ki 47)) (16 : Int).toNat (ki 53)) (17 : Int).toNat (ki 43)) (18 : Int).toNat (ki 108)) (19 : Int).toNat (ki 37)) (20 : Int).toNat (ki 50))))]] : List va_W)) (x := xW cy xtb a S302) 1 rfl rfl hPn
    have hD := blk_D2 (bs := ([[(q168, .inl (cy 0, 21, .inl (upd (upd (upd (upd (upd (upd (upd (upd (upd (upd (upd (upd (upd (upd (upd (upd (upd (upd (upd (upd (upd (fun _ => (0 : Int32)) (0 : Int).toNat (ki 100)) (1 : Int).toNat (ki 42)) (2 : Int).toNat (ki 50)) (3 : Int).toNat (ki 45)) (4 : Int).toNat (ki 97)) (5 : Int).toNat (ki 45)) (6 : Int).toNat (ki 115)) (7 : Int).toNat (ki 42)) (8 : Int).toNat (ki 52)) (9 : Int).toNat (ki 43)) (10 : Int).toNat (ki 40)) (11 : Int).toNat (ki 110)) (12 : Int).toNat (ki 45)) (13 : Int).toNat (ki 104)) (14 : Int).toNat (ki 41)) (15 : Int).toNat (ki 47)) (16 : Int).toNat (ki 53)) (17 : Int).toNat (ki 43)) (18 : Int).toNat (ki 108)) (19 : Int).toNat (ki 37)) (20 : Int).toNat (ki 50))))], xW cy xtb a S302] : List va_W)) (rs := ([[(q168, .inl (cy 0, 21, .inl (upd (upd (upd (upd (upd (upd (upd (upd (upd (upd (upd (upd (upd (upd (upd (upd (upd (upd (upd (upd (upd (fun _ => (0 : Int32)) (0 : Int).toNat (ki 100)) (1 : Int).toNat (ki 42)) (2 : Int).toNat (ki 50)) (3 : Int).toNat (ki 45)) (4 : Int).toNat (ki 97)) (5 : Int).toNat (ki 45)) (6 : Int).toNat (ki 115)) (7 : Int).toNat (ki 42)) (8 : Int).toNat (ki 52)) (9 : Int).toNat (ki 43)) (10 : Int).toNat (ki 40)) (11 : Int).toNat (ki 110)) (12 : Int).toNat (ki 45)) (13 : Int).toNat (ki 104)) (14 : Int).toNat (ki 41)) (15 : Int).toNat (ki 47)) (16 : Int).toNat (ki 53)) (17 : Int).toNat (ki 43)) (18 : Int).toNat (ki 108)) (19 : Int).toNat (ki 37)) (20 : Int).toNat (ki 50))))]] : List va_W)) (x := xW cy xtb a S302) 1 rfl rfl hDn
    refine lv_iconst (v := ki 1) hx hb dL_built_305 rfl ?_
    refine kv_icmp_ne_f (tgt := 313) hx hb (by omega) (by omega) (by omega) (by omega) (by omega) dL_built_306 (by decide) ?_
    refine lv_iconst (v := ki 1) hx hb dL_built_309 rfl ?_
    refine lv_goto (tgt := 314) hx hb dL_built_310 (by decide) ?_
    have hP : va_P D vwCl (List.flatten [xW cy xtb a S302]) H := xP_last (wr := [(q168, .inl (cy 0, 21, .inl (upd (upd (upd (upd (upd (upd (upd (upd (upd (upd (upd (upd (upd (upd (upd (upd (upd (upd (upd (upd (upd (fun _ => (0 : Int32)) (0 : Int).toNat (ki 100)) (1 : Int).toNat (ki 42)) (2 : Int).toNat (ki 50)) (3 : Int).toNat (ki 45)) (4 : Int).toNat (ki 97)) (5 : Int).toNat (ki 45)) (6 : Int).toNat (ki 115)) (7 : Int).toNat (ki 42)) (8 : Int).toNat (ki 52)) (9 : Int).toNat (ki 43)) (10 : Int).toNat (ki 40)) (11 : Int).toNat (ki 110)) (12 : Int).toNat (ki 45)) (13 : Int).toNat (ki 104)) (14 : Int).toNat (ki 41)) (15 : Int).toNat (ki 47)) (16 : Int).toNat (ki 53)) (17 : Int).toNat (ki 43)) (18 : Int).toNat (ki 108)) (19 : Int).toNat (ki 37)) (20 : Int).toNat (ki 50))))]) hP
    have hD : va_D A (List.flatten [xW cy xtb a S302]) := xD_last (wr := [(q168, .inl (cy 0, 21, .inl (upd (upd (upd (upd (upd (upd (upd (upd (upd (upd (upd (upd (upd (upd (upd (upd (upd (upd (upd (upd (upd (fun _ => (0 : Int32)) (0 : Int).toNat (ki 100)) (1 : Int).toNat (ki 42)) (2 : Int).toNat (ki 50)) (3 : Int).toNat (ki 45)) (4 : Int).toNat (ki 97)) (5 : Int).toNat (ki 45)) (6 : Int).toNat (ki 115)) (7 : Int).toNat (ki 42)) (8 : Int).toNat (ki 52)) (9 : Int).toNat (ki 43)) (10 : Int).toNat (ki 40)) (11 : Int).toNat (ki 110)) (12 : Int).toNat (ki 45)) (13 : Int).toNat (ki 104)) (14 : Int).toNat (ki 41)) (15 : Int).toNat (ki 47)) (16 : Int).toNat (ki 53)) (17 : Int).toNat (ki 43)) (18 : Int).toNat (ki 108)) (19 : Int).toNat (ki 37)) (20 : Int).toNat (ki 50))))]) hD
    exact W.zret (v := ki 1) hx hb hr (x_nz (Or.inr rfl)) (fun t ht9 hW => ⟨⟨_, (S302, telS 0 6 (gwS L xs) η), rfl, rfl, ⟨_, hB⟩, hE, by rw [ht9]; exact hP, hD⟩, hS.F ht9⟩) hS.2.2 dL_built_314
  · rw [show bi (lwS L xs) = 0 from if_neg hc158]
    refine kv_if_ne_f (tgt := 166) hx hb (by omega) (by omega) (by omega) dL_built_161 (by decide) ?_
    refine lv_iconst (v := ki 1) hx hb dL_built_164 rfl ?_
    refine W.widen (k := 1) (n := 21) (by omega) (by omega) ?_
    exact W.zret (v := ki 1) hx hb hr (x_nz (Or.inr rfl)) (fun t ht9 hW => ⟨⟨_, (S147, telS 0 6 (gwS L xs) η), rfl, rfl, ⟨_, hB⟩, hE, by rw [ht9]; exact hP, hD⟩, hS.F ht9⟩) hS.2.2 dL_built_165
end C9
