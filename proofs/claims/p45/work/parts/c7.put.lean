/-! part c7: the law's calls of HotStack, put, tell (made by wip/p45/gen_c7.py) -/
theorem K_sub {D : va_G} {cy : Nat → ClassId} {s : State} (h : va_K D vwCl (xtyL cy) s) : va_K D vwCl (xty cy) s := ⟨h.1, fun i q hq => h.2 i q (by
  rw [List.getElem?_append_left (List.getElem?_eq_some_iff.mp hq).1]; exact hq)⟩
theorem xD_st {A : Nat → Prop} {cy : Nat → ClassId} {tb : xTb} {a : Nat → Nat} {S S' : xSt} {wr : va_W} (h : va_D A (wr ++ xW cy tb a S)) : va_D A (wr ++ xW cy tb a S') := by
  rw [xD_nd] at h ⊢
  obtain ⟨h1, h2⟩ := h
  rw [List.map_append, xW_fst] at h1 ⊢
  refine ⟨h1, fun q hq => ?_⟩
  have h3 : q.1 ∈ (wr ++ xW cy tb a S').map Prod.fst := List.mem_map_of_mem hq
  have h4 : (wr ++ xW cy tb a S').map Prod.fst = (wr ++ xW cy tb a S).map Prod.fst := by rw [List.map_append, List.map_append, xW_fst, xW_fst]
  rw [h4] at h3
  obtain ⟨q', h5, h6⟩ := List.mem_map.mp h3
  rw [← h6]
  exact h2 q' h5
def gP (D : va_G) (cy : Nat → ClassId) (mi zE zc : Nat) (ad z a : Nat → Nat) (b L : Nat) (xs : Nat → Int32) (bs : List va_W) (S : xSt) (sz : Nat) (U : State) : Prop := jPs D cy mi zE zc ad b L xs (bs ++ [xW cy xtb a S]).flatten sz U ∧ xEx z (va_A (bs ++ [xW cy xtb a S]).flatten sz) U U.heap
theorem gP_bl {D : va_G} {cy : Nat → ClassId} {mi zE zc : Nat} {ad z a : Nat → Nat} {b L : Nat} {xs : Nat → Int32} {bs : List va_W} {S : xSt} {sz : Nat} {av : List Value} : FrameBlind (va_Pc av (gP D cy mi zE zc ad z a b L xs bs S sz)) := by
  intro b1 U g mk q
  obtain ⟨q0, q1, q2⟩ := q
  have h := jPs_bl b1 U g mk ⟨q0, q1⟩
  exact ⟨h.1, h.2, q2.same (U := U.calling g mk b1) rfl⟩
theorem gP_to {D : va_G} {cy : Nat → ClassId} {mi zE zc : Nat} {ad z a : Nat → Nat} {b L : Nat} {xs : Nat → Int32} {A : Nat → Prop} {s U : State} {H : Heap} {locs : List Loc} {wr : va_W} {bs : List va_W} {S : xSt} (hP : va_P D vwCl (wr ++ (bs ++ [xW cy xtb a S]).flatten) H) (hD : va_D A (wr ++ (bs ++ [xW cy xtb a S]).flatten)) (hS : va_S A s.heap H locs) (hA : ∀ q, s.heap.size ≤ q → A q) (hK : va_K D vwCl (xtyL cy) s) (hN : jN mi s) (hZ : jZ zE zc ad A s s.heap) (hX : va_X b L xs s s.heap) (hbl : b < s.heap.size) (hbA : ¬ A b) (hNs : nS s) (hEx : xEx z A s s.heap) (hU : U.heap = H) (hW : s.WarmedH U.vm) : gP D cy mi zE zc ad z a b L xs bs S H.size U :=
  ⟨jPs_to hP hD hS hA hK hN hZ hX hbl hbA hNs hU hW, hEx.to (H1 := U.heap) hW (fun q h1 h2 => by rw [hU]; exact hS.2.1 q h1 h2) (x_free hD hS hA)⟩
section C7
variable {l : Launch} {D : va_G} {cy : Nat → ClassId} {mi zE zc : Nat} {ad z a : Nat → Nat} {b L : Nat} {xs : Nat → Int32}
section SP
variable {p : Program} {e : Env} {R : Room} {s : State} {m : MethodId} {args : Array Value} {below : List Frame} {meth : Method} {c : Code} {Q : State → Prop} {A : Nat → Prop}
variable {q N r : Nat} {f : Nat → Int32} {g : Int → Int} {S0 : xSt}
set_option maxHeartbeats 2000000 in
set_option maxRecDepth 20000 in
theorem SP_L (hx : p.tables.exec = Jvm.exec) (hb : c.code = cL_put) (hml : c.maxLocals = 4) (hown : s.vm.findClass RL = some m.cls) (hts : ∀ w ∈ xTB, w.before args s = true) (hK : va_K D vwCl (xtyL cy) s) (hN : jN mi s) (hZ : jZ zE zc ad A s s.heap) (hX : va_X b L xs s s.heap) (hbl : b < s.heap.size) (hbA : ¬ A b) (hNs : nS s) (hEx : xEx z A s s.heap) (hA : ∀ q, s.heap.size ≤ q → A q) (hI : xI xtb a) (hR : 8 ≤ R.frames ∧ 400 ≤ R.locals) (hN60 : N ≤ 60) (hr6 : r < 6) (hfg : ∀ j : Nat, j < N → f j = ki (g j)) (hg : ∀ z : Int, 0 ≤ z → z < N → -128 ≤ g z ∧ g z < 128) {k n : Nat} (hkn : k ≤ R.cells ∧ n ≤ R.slots) (kk : ∀ (S1 : xSt) (rd : Int → Int) (hs : sX r N rd S1) (hrd : ∀ z : Int, 0 ≤ z → z < N → rd z = g z) (he1 : ∀ k, k < 104 → S1.1 k = S0.1 k) (H : Heap) (locs : List Loc) (ls : Array Slot), va_P D vwCl (List.flatten [[(q, .inl (cy 0, N, .inl f))], xW cy xtb a S1]) H → va_D A (List.flatten [[(q, .inl (cy 0, N, .inl f))], xW cy xtb a S1]) → va_S A s.heap H locs → ls.size = 4 → W p l e R s m args below meth c H locs k n Q (F0 m 44 ls [])) : ∀ (d i : Nat), i + d = N → ∀ (S1 : xSt) (rd : Int → Int) (hs : sX r N rd S1) (hrd : ∀ z : Int, 0 ≤ z → z < i → rd z = g z) (he1 : ∀ k, k < 104 → S1.1 k = S0.1 k) (H : Heap) (locs : List Loc) (ls : Array Slot), lv_has ls 4 [(3, .int (ki (i : Int))), (0, .ref (a 0)), (1, .int (ki (r : Int))), (2, .ref q)] → va_P D vwCl (List.flatten [[(q, .inl (cy 0, N, .inl f))], xW cy xtb a S1]) H → va_D A (List.flatten [[(q, .inl (cy 0, N, .inl f))], xW cy xtb a S1]) → va_S A s.heap H locs → W p l e R s m args below meth c H locs k n Q (F0 m 16 ls []) := by
  intro d
  induction d with
  | zero =>
    intro i hi S1 rd hs hrd he1 H locs ls hl hP hD hS
    have hi : i = N := by omega
    subst hi
    refine lv_iload_n hx hb dL_put_16 rfl (lv_at hl 0 rfl) ?_
    refine lv_aload_n hx hb dL_put_17 rfl (lv_at hl 3 rfl) ?_
    refine va_alen (v := ki (i : Int)) hx hb hK hP 0 0 rfl rfl (nI_ki (by omega)) dL_put_18 ?_
    refine kv_icmp_ge_t (tgt := 44) hx hb (by omega) (by omega) (by omega) (by omega) (by omega) dL_put_19 (by decide) ?_
    exact kk S1 rd hs hrd he1 H _ ls hP hD hS hl.1
  | succ d ih =>
    intro i hi S1 rd hs hrd he1 H locs ls hl hP hD hS
    have hgi := hg (i : Int) (by omega) (by omega)
    refine lv_iload_n hx hb dL_put_16 rfl (lv_at hl 0 rfl) ?_
    refine lv_aload_n hx hb dL_put_17 rfl (lv_at hl 3 rfl) ?_
    refine va_alen (v := ki (N : Int)) hx hb hK hP 0 0 rfl rfl (nI_ki (by omega)) dL_put_18 ?_
    refine kv_icmp_ge_f (tgt := 44) hx hb (by omega) (by omega) (by omega) (by omega) (by omega) dL_put_19 (by decide) ?_
    refine lv_aload_n hx hb dL_put_22 rfl (lv_at hl 1 rfl) ?_
    refine lv_iload_n hx hb dL_put_23 rfl (lv_at hl 2 rfl) ?_
    refine lv_iload_n hx hb dL_put_24 rfl (lv_at hl 0 rfl) ?_
    refine lv_aload_n hx hb dL_put_25 rfl (lv_at hl 3 rfl) ?_
    refine lv_iload_n hx hb dL_put_26 rfl (lv_at hl 0 rfl) ?_
    refine kv_ald hx hb hK hP 0 0 rfl rfl (v := g (i : Int)) (by omega) (by omega) (by omega) (hfg i (by omega)) dL_put_27 ?_
    refine lv_i2l (v := kj (g (i : Int))) hx hb dL_put_28 (ki_64 (by omega) (by omega)) ?_
    obtain ⟨⟨S29, v29⟩, hf29, hq29⟩ := t_put (S := S1) hr6 hs (p := (i : Int)) (v := g (i : Int)) (by omega) (by omega) (by omega) (by omega)
    dsimp only at hq29
    obtain ⟨hv9, hs, he2⟩ := hq29
    subst hv9
    have hPc := blk_P (bs := ([[(q, .inl (cy 0, N, .inl f))], xW cy xtb a S1] : List va_W)) (rs := ([[(q, .inl (cy 0, N, .inl f))]] : List va_W)) (x := xW cy xtb a S1) 1 rfl rfl hP
    have hDc := blk_D (bs := ([[(q, .inl (cy 0, N, .inl f))], xW cy xtb a S1] : List va_W)) (rs := ([[(q, .inl (cy 0, N, .inl f))]] : List va_W)) (x := xW cy xtb a S1) 1 rfl rfl hD
    refine lw_vi hx hb hml hown hts (K_sub hK) hEx hI hPc hDc hS hA (⟨xw_mem 1044 (by decide +kernel) rfl, xw_mem 30 (by decide +kernel) rfl, xw_mem 1041 (by decide +kernel) rfl, by decide +kernel⟩ : xML RL 61 yX11_put cX11_put 6 (some .int) 3) (xw_mem 1042 (by decide +kernel) rfl) (xw_mem 1043 (by decide +kernel) rfl) (he := rfl) (by decide) rfl [.int (ki (r : Int)), .int (ki (i : Int)), .long (kj (g (i : Int)))] (rest := []) (c_X11_put hI hf29 _) ⟨by omega, by omega⟩ ⟨by omega, by omega⟩ rfl hl.1 rfl (Nat.le_of_ble_eq_true (rfl)) dL_put_29 (fun H locs hPn hS => ?_)
    have hDn := xD_st (S' := S29) hDc
    have hP := blk_P2 (bs := ([[(q, .inl (cy 0, N, .inl f))], xW cy xtb a S29] : List va_W)) (rs := ([[(q, .inl (cy 0, N, .inl f))]] : List va_W)) (x := xW cy xtb a S29) 1 rfl rfl hPn
    have hD := blk_D2 (bs := ([[(q, .inl (cy 0, N, .inl f))], xW cy xtb a S29] : List va_W)) (rs := ([[(q, .inl (cy 0, N, .inl f))]] : List va_W)) (x := xW cy xtb a S29) 1 rfl rfl hDn
    refine lv_iconst (v := ki 1) hx hb dL_put_32 rfl ?_
    refine kv_icmp_eq_t (tgt := 38) hx hb (by omega) (by omega) (by omega) (by omega) (by omega) dL_put_33 (by decide) ?_
    refine lv_iinc (v := ki ((i + 1 : Nat) : Int)) (lv' := [(3, .int (ki ((i + 1 : Nat) : Int))), (0, .ref (a 0)), (1, .int (ki (r : Int))), (2, .ref q)]) hx hb dL_put_38 hl (k := 0) rfl ((ki_add _ _).trans (congrArg ki (by omega))) (by decide) rfl (fun ls hl => ?_)
    refine lv_goto (tgt := 16) hx hb dL_put_41 (by decide) ?_
    exact ih (i + 1) (by omega) _ _ hs (fun z z0 z1 => by
      unfold up
      by_cases e : z = (i : Int)
      · rw [if_pos e, e]
      · rw [if_neg e]; exact hrd z z0 (by omega)) (fun k hk => by rw [he2]; exact he1 k hk) H _ ls (lv_sub hl [0, 1, 2, 3] rfl) hP hD hS
end SP
set_option maxHeartbeats 4000000 in
set_option maxRecDepth 20000 in
theorem c_L_put {q N r : Nat} {f : Nat → Int32} {g : Int → Int} {S : xSt} (hN60 : N ≤ 60) (hr6 : r < 6) (hfg : ∀ j : Nat, j < N → f j = ki (g j)) (hg : ∀ z : Int, 0 ≤ z → z < N → -128 ≤ g z ∧ g z < 128) (sz : Nat) : Met l yL_put (Cond.code yL_put cL_put 4 (some .boolean) :: xTB) ({ frames := 8, cells := 0, slots := 0, locals := 400 } : Room) (va_Pc [.ref (a 0), .int (ki (r : Int)), .ref q] (gP D cy mi zE zc ad z a b L xs [[(q, .inl (cy 0, N, .inl f))]] S sz)) (va_Qi (S := xSt × (Int → Int)) (fun r _ => r = ki 1) (fun u t => sX r N u.2 u.1 ∧ (∀ z : Int, 0 ≤ z → z < N → u.2 z = g z) ∧ (∀ k, k < 104 → u.1.1 k = S.1 k) ∧ va_P D vwCl (List.flatten [[(q, .inl (cy 0, N, .inl f))], xW cy xtb a u.1]) t.heap ∧ va_D (va_A (List.flatten [[(q, .inl (cy 0, N, .inl f))], xW cy xtb a S]) sz) (List.flatten [[(q, .inl (cy 0, N, .inl f))], xW cy xtb a u.1])) (va_A (List.flatten [[(q, .inl (cy 0, N, .inl f))], xW cy xtb a S]) sz)) 0 0 (va_A (List.flatten [[(q, .inl (cy 0, N, .inl f))], xW cy xtb a S]) sz) := by
  refine Met.ofW (cc := cL_put) (maxL := 4) (ret := (some .boolean)) (by decide) rfl ?_
  intro p e s m args below meth c s₁ B hml hv
  obtain ⟨rfl, ⟨⟨⟨hsz, hP, hK, hD0, hN, hZ⟩, ⟨hbl, hX⟩, hbA0, hNs⟩, hEx⟩⟩ := hv
  subst hsz
  have hx := B.exec
  have hb := B.bytes
  have hr := B.returns
  have hts : ∀ w ∈ xTB, w.before ([.ref (a 0), .int (ki (r : Int)), .ref q] : List Value).toArray s = true := fun w hw => atoms_spec (ws := Cond.code yL_put cL_put 4 (some .boolean) :: xTB) B.pre w (List.mem_cons_of_mem _ hw)
  have hown : s.vm.findClass RL = some m.cls := findClass_of_methodNamed B.named
  have hlocks := B.notSynchronized
  have hl := lv_entry ([.ref (a 0), .int (ki (r : Int)), .ref q]) (n := 4) (Nat.le_of_ble_eq_true rfl)
  rw [lg_entry_eq]
  generalize (lg_sl ([.ref (a 0), .int (ki (r : Int)), .ref q]) ++ List.replicate (4 - (lg_sl ([.ref (a 0), .int (ki (r : Int)), .ref q])).length) Slot.unset).toArray = ls at hl ⊢
  have hl : lv_has ls 4 [(0, .ref (a 0)), (1, .int (ki (r : Int))), (2, .ref q)] := hl
  have hP : va_P D vwCl (List.flatten [[(q, .inl (cy 0, N, .inl f))], xW cy xtb a S]) s.heap := hP
  have hD := hD0.self (sz := s.heap.size)
  have hD : va_D (va_A (List.flatten [[(q, .inl (cy 0, N, .inl f))], xW cy xtb a S]) s.heap.size) (List.flatten [[(q, .inl (cy 0, N, .inl f))], xW cy xtb a S]) := hD
  have hZ : jZ zE zc ad (va_A (List.flatten [[(q, .inl (cy 0, N, .inl f))], xW cy xtb a S]) s.heap.size) s s.heap := hZ
  have hEx : xEx z (va_A (List.flatten [[(q, .inl (cy 0, N, .inl f))], xW cy xtb a S]) s.heap.size) s s.heap := hEx
  have hbA0 : ¬ va_A (List.flatten [[(q, .inl (cy 0, N, .inl f))], xW cy xtb a S]) s.heap.size b := hbA0
  have hI : xI xtb a := xI_of_D (S := S) (xD_last (blk_D (bs := [[(q, .inl (cy 0, N, .inl f))], xW cy xtb a S]) (rs := [[(q, .inl (cy 0, N, .inl f))]]) (x := xW cy xtb a S) 1 rfl rfl hD))
  generalize hAe : va_A (List.flatten [[(q, .inl (cy 0, N, .inl f))], xW cy xtb a S]) s.heap.size = A at hD hZ hEx hbA0 ⊢
  have hbA : ¬ A b := hbA0
  have hA : ∀ q : Nat, s.heap.size ≤ q → A q := fun q h => by rw [← hAe]; exact Or.inr h
  have hS : va_S A s.heap s.heap [] := va_S.rf
  refine lv_aload_n hx hb dL_put_0 rfl (lv_at hl 0 rfl) ?_
  refine lv_iload_n hx hb dL_put_1 rfl (lv_at hl 1 rfl) ?_
  refine lv_iconst (v := ki 0) hx hb dL_put_2 rfl ?_
  refine lv_aload_n hx hb dL_put_3 rfl (lv_at hl 2 rfl) ?_
  refine va_alen (v := ki (N : Int)) hx hb hK hP 0 0 rfl rfl (nI_ki (by omega)) dL_put_4 ?_
  obtain ⟨⟨S5, v5⟩, hf5, hq5⟩ := t_row (S := S) hr6 (n := (N : Int)) (by omega) (by omega)
  dsimp only at hq5
  obtain ⟨hv9, hs, he1⟩ := hq5
  subst hv9
  have hPc := blk_P (bs := ([[(q, .inl (cy 0, N, .inl f))], xW cy xtb a S] : List va_W)) (rs := ([[(q, .inl (cy 0, N, .inl f))]] : List va_W)) (x := xW cy xtb a S) 1 rfl rfl hP
  have hDc := blk_D (bs := ([[(q, .inl (cy 0, N, .inl f))], xW cy xtb a S] : List va_W)) (rs := ([[(q, .inl (cy 0, N, .inl f))]] : List va_W)) (x := xW cy xtb a S) 1 rfl rfl hD
  refine lw_vi hx hb hml hown hts (K_sub hK) hEx hI hPc hDc hS hA (⟨xw_mem 1036 (by decide +kernel) rfl, xw_mem 30 (by decide +kernel) rfl, xw_mem 1033 (by decide +kernel) rfl, by decide +kernel⟩ : xML RL 58 yX11_row cX11_row 4 (some .int) 3) (xw_mem 1034 (by decide +kernel) rfl) (xw_mem 1035 (by decide +kernel) rfl) (he := rfl) (by decide) rfl [.int (ki (r : Int)), .int (ki 0), .int (ki (N : Int))] (rest := []) (c_X11_row hI hf5 _) ⟨Nat.le_of_ble_eq_true rfl, Nat.le_of_ble_eq_true rfl⟩ ⟨Nat.le_of_ble_eq_true rfl, Nat.le_of_ble_eq_true rfl⟩ rfl hl.1 rfl (Nat.le_of_ble_eq_true (rfl)) dL_put_5 (fun H locs hPn hS => ?_)
  have hDn := xD_st (S' := S5) hDc
  have hP := blk_P2 (bs := ([[(q, .inl (cy 0, N, .inl f))], xW cy xtb a S5] : List va_W)) (rs := ([[(q, .inl (cy 0, N, .inl f))]] : List va_W)) (x := xW cy xtb a S5) 1 rfl rfl hPn
  have hD := blk_D2 (bs := ([[(q, .inl (cy 0, N, .inl f))], xW cy xtb a S5] : List va_W)) (rs := ([[(q, .inl (cy 0, N, .inl f))]] : List va_W)) (x := xW cy xtb a S5) 1 rfl rfl hDn
  refine lv_iconst (v := ki 1) hx hb dL_put_8 rfl ?_
  refine kv_icmp_eq_t (tgt := 14) hx hb (by omega) (by omega) (by omega) (by omega) (by omega) dL_put_9 (by decide) ?_
  refine lv_iconst (v := ki 0) hx hb dL_put_14 rfl ?_
  refine lv_istore_n (lv' := [(3, .int (ki 0)), (0, .ref (a 0)), (1, .int (ki (r : Int))), (2, .ref q)]) hx hb dL_put_15 rfl hl (by decide) rfl (fun ls hl => ?_)
  refine SP_L hx hb hml hown hts hK hN hZ hX hbl hbA hNs hEx hA hI ⟨Nat.le_of_ble_eq_true rfl, Nat.le_of_ble_eq_true rfl⟩ hN60 hr6 hfg hg ⟨Nat.le_of_ble_eq_true rfl, Nat.le_of_ble_eq_true rfl⟩ (fun S2 rd hs hrd he1 H locs ls hP hD hS hls => ?_) N 0 (by omega) _ _ hs (fun z z0 z1 => absurd z1 (by omega)) he1 H _ ls (lv_sub hl [0, 1, 2, 3] rfl) hP hD hS
  refine lv_iconst (v := ki 1) hx hb dL_put_44 rfl ?_
  exact W.zret (v := ki 1) hx hb hr (x_nz (Or.inr rfl)) (fun t ht hW => ⟨⟨_, (S2, rd), rfl, rfl, hs, hrd, he1, by rw [ht]; exact hP, hD⟩, hS.F ht⟩) hS.2.2 dL_put_45
end C7
