/-! part c6: Stack.cells, Stack.beside (made by wip/p45/gen_c6.py) -/
def csP (L : Nat) (xs : Nat → Int32) (q : Nat) : Bool := decide (((q : Int) % 5) < hgS L xs ((q : Int) / 5))
def csI (L : Nat) (xs : Nat → Int32) (i : Nat) : List Nat := (List.range i).filter (csP L xs)
theorem csI_len (L : Nat) (xs : Nat → Int32) (i : Nat) : (csI L xs i).length ≤ i := by
  have h := List.length_filter_le (csP L xs) (List.range i)
  rw [List.length_range] at h
  exact h
theorem csI_t {L : Nat} {xs : Nat → Int32} {i : Nat} (h : isC L xs ((i : Int) / 5) ((i : Int) % 5)) : csI L xs (i + 1) = csI L xs i ++ [i] := by
  unfold csI
  rw [List.range_succ, List.filter_append]
  congr 1
  rw [List.filter_cons_of_pos]
  · rfl
  · unfold csP; exact decide_eq_true h.2.2.2
theorem csI_f {L : Nat} {xs : Nat → Int32} {i : Nat} (hi : i < 30) (h : ¬ isC L xs ((i : Int) / 5) ((i : Int) % 5)) : csI L xs (i + 1) = csI L xs i := by
  unfold csI
  rw [List.range_succ, List.filter_append]
  rw [List.filter_cons_of_neg]
  · simp
  · unfold csP
    intro q
    have q := of_decide_eq_true q
    exact h ⟨by omega, by omega, by omega, q⟩
section C6
variable {l : Launch} {D : va_G} {cy : Nat → ClassId} {mi zE zc : Nat} {ad : Nat → Nat} {b L : Nat} {xs : Nat → Int32}
section SC
variable {p : Program} {e : Env} {R : Room} {s : State} {m : MethodId} {args : Array Value} {below : List Frame} {meth : Method} {c : Code} {Q : State → Prop} {A : Nat → Prop}
variable {z q1 q2 q3 q4 q5 q6 q7 : Nat} {fh fd fs : Nat → Int32}
set_option maxHeartbeats 2000000 in
set_option maxRecDepth 20000 in
theorem SC_L (hx : p.tables.exec = Jvm.exec) (hb : c.code = cX12_cells) (hml : c.maxLocals = 3) (hown : s.vm.findClass RX12 = some m.cls) (hts : ∀ w ∈ xTB, w.before args s = true) (hK : va_K D vwCl (xtyL cy) s) (hN : jN mi s) (hZ : jZ zE zc ad A s s.heap) (hA : ∀ q, s.heap.size ≤ q → A q) (hR : 8 ≤ R.frames ∧ 400 ≤ R.locals ∧ 31 ≤ R.cells ∧ 3003 ≤ R.slots) (hh : ∀ j : Nat, j < 6 → fh j = ki (hgS L xs j)) {y : Nat} (kk : ∀ (w : va_W) (k n : Nat) (hw9 : isL cy zE ad y (csI L xs 30) w) (hk : k ≤ 1 + 30) (hn : n ≤ 3 + 100 * 30) (H : Heap) (locs : List Loc) (ls : Array Slot), lv_has ls 3 [(2, .int (ki (30 : Int))), (0, .ref z), (1, .ref y)] → va_P D vwCl (List.flatten [[(z, .inr (12, [.ref b, .ref q1, .ref q2, .ref q3, .ref q4, .ref q5, .ref q6, .ref q7])), (q1, .inl (cy 0, 6, .inl fh)), (q2, .inl (cy 0, 30, .inl fd)), (q4, .inl (cy 0, 30, .inl fs))], w]) H → va_D A (List.flatten [[(z, .inr (12, [.ref b, .ref q1, .ref q2, .ref q3, .ref q4, .ref q5, .ref q6, .ref q7])), (q1, .inl (cy 0, 6, .inl fh)), (q2, .inl (cy 0, 30, .inl fd)), (q4, .inl (cy 0, 30, .inl fs))], w]) → va_S A s.heap H locs → W p l e R s m args below meth c H locs k n Q (F0 m 44 ls [])) : ∀ (d i : Nat), i + d = 30 → ∀ (w : va_W) (k n : Nat) (hw9 : isL cy zE ad y (csI L xs i) w) (hk : k ≤ 1 + i) (hn : n ≤ 3 + 100 * i) (H : Heap) (locs : List Loc) (ls : Array Slot), lv_has ls 3 [(2, .int (ki (i : Int))), (0, .ref z), (1, .ref y)] → va_P D vwCl (List.flatten [[(z, .inr (12, [.ref b, .ref q1, .ref q2, .ref q3, .ref q4, .ref q5, .ref q6, .ref q7])), (q1, .inl (cy 0, 6, .inl fh)), (q2, .inl (cy 0, 30, .inl fd)), (q4, .inl (cy 0, 30, .inl fs))], w]) H → va_D A (List.flatten [[(z, .inr (12, [.ref b, .ref q1, .ref q2, .ref q3, .ref q4, .ref q5, .ref q6, .ref q7])), (q1, .inl (cy 0, 6, .inl fh)), (q2, .inl (cy 0, 30, .inl fd)), (q4, .inl (cy 0, 30, .inl fs))], w]) → va_S A s.heap H locs → W p l e R s m args below meth c H locs k n Q (F0 m 10 ls []) := by
  intro d
  induction d with
  | zero =>
    intro i hi w k n hw9 hk hn H locs ls hl hP hD hS
    have hi : i = 30 := by omega
    subst hi
    refine lv_iload_n hx hb dX12_cells_10 rfl (lv_at hl 0 rfl) ?_
    refine lv_bipush (v := ki 30) hx hb dX12_cells_11 rfl ?_
    refine kv_icmp_ge_t (tgt := 44) hx hb (by omega) (by omega) (by omega) (by omega) (by omega) dX12_cells_13 (by decide) ?_
    exact kk w k n hw9 hk hn H _ ls hl hP hD hS
  | succ d ih =>
    intro i hi w k n hw9 hk hn H locs ls hl hP hD hS
    have hlen : (csI L xs i).length < 30 := by have := csI_len L xs i; omega
    refine lv_iload_n hx hb dX12_cells_10 rfl (lv_at hl 0 rfl) ?_
    refine lv_bipush (v := ki 30) hx hb dX12_cells_11 rfl ?_
    refine kv_icmp_ge_f (tgt := 44) hx hb (by omega) (by omega) (by omega) (by omega) (by omega) dX12_cells_13 (by decide) ?_
    refine lv_aload_n hx hb dX12_cells_16 rfl (lv_at hl 1 rfl) ?_
    refine lv_iload_n hx hb dX12_cells_17 rfl (lv_at hl 0 rfl) ?_
    refine lv_iconst (v := ki 5) hx hb dX12_cells_18 rfl ?_
    refine kv_div (r := (i : Int) / 5) hx hb (by omega) (by omega) (by omega) (by omega) rfl dX12_cells_19 ?_
    refine lv_iload_n hx hb dX12_cells_20 rfl (lv_at hl 0 rfl) ?_
    refine lv_iconst (v := ki 5) hx hb dX12_cells_21 rfl ?_
    refine kv_rem (r := (i : Int) % 5) hx hb (by omega) (by omega) (by omega) (by omega) rfl dX12_cells_22 ?_
    have hPc := blk_P (bs := ([[(z, .inr (12, [.ref b, .ref q1, .ref q2, .ref q3, .ref q4, .ref q5, .ref q6, .ref q7])), (q1, .inl (cy 0, 6, .inl fh)), (q2, .inl (cy 0, 30, .inl fd)), (q4, .inl (cy 0, 30, .inl fs))], w] : List va_W)) 0 rfl rfl hP
    have hDc := blk_D (bs := ([[(z, .inr (12, [.ref b, .ref q1, .ref q2, .ref q3, .ref q4, .ref q5, .ref q6, .ref q7])), (q1, .inl (cy 0, 6, .inl fh)), (q2, .inl (cy 0, 30, .inl fd)), (q4, .inl (cy 0, 30, .inl fs))], w] : List va_W)) 0 rfl rfl hD
    refine kc_Vi hx hb hml hown hts (⟨xw_mem 866 (by decide +kernel) rfl, xw_mem 43 (by decide +kernel) rfl, xw_mem 863 (by decide +kernel) rfl, by decide +kernel⟩ : xML RX12 47 yX12_is cX12_is 3 (some .boolean) 2) (xw_mem 864 (by decide +kernel) rfl) (xw_mem 865 (by decide +kernel) rfl) (va_recv hK hP (rfl : vwCl[12]? = some (RX12, TX12, 8)) (show ((List.flatten [[(z, .inr (12, [.ref b, .ref q1, .ref q2, .ref q3, .ref q4, .ref q5, .ref q6, .ref q7])), (q1, .inl (cy 0, 6, .inl fh)), (q2, .inl (cy 0, 30, .inl fd)), (q4, .inl (cy 0, 30, .inl fs))], w]))[0]? = _ from rfl)) hPc hDc hS hA [.int (ki ((i : Int) / 5)), .int (ki ((i : Int) % 5))] (rest := []) _ _ (c_is (by omega) (by omega) (by omega) (by omega) hh _) jP_bl (fun U hU hW => jP_to hPc hDc hS hA hK hN hZ hU hW) ⟨by omega, by omega⟩ (by omega) (by omega) rfl hl.1 rfl (Nat.le_of_ble_eq_true (rfl)) dX12_cells_23 (fun r u t H locs ht hw hB hz hJ hS => ?_)
    subst hw
    obtain ⟨hP1, hD1⟩ := hB
    rw [ht] at hP1
    obtain ⟨hPn, hDn⟩ := hJ _ hP1 hD1
    have hP := blk_P2 (bs := ([[(z, .inr (12, [.ref b, .ref q1, .ref q2, .ref q3, .ref q4, .ref q5, .ref q6, .ref q7])), (q1, .inl (cy 0, 6, .inl fh)), (q2, .inl (cy 0, 30, .inl fd)), (q4, .inl (cy 0, 30, .inl fs))], w] : List va_W)) 0 rfl rfl hPn
    have hD := blk_D2 (bs := ([[(z, .inr (12, [.ref b, .ref q1, .ref q2, .ref q3, .ref q4, .ref q5, .ref q6, .ref q7])), (q1, .inl (cy 0, 6, .inl fh)), (q2, .inl (cy 0, 30, .inl fd)), (q4, .inl (cy 0, 30, .inl fs))], w] : List va_W)) 0 rfl rfl hDn
    by_cases hc23 : isC L xs ((i : Int) / 5) ((i : Int) % 5)
    · rw [show bi (isC L xs ((i : Int) / 5) ((i : Int) % 5)) = 1 from if_pos hc23]
      refine kv_if_eq_f (tgt := 38) hx hb (by omega) (by omega) (by omega) dX12_cells_26 (by decide) ?_
      refine lv_aload_n hx hb dX12_cells_29 rfl (lv_at hl 2 rfl) ?_
      refine lv_iload_n hx hb dX12_cells_30 rfl (lv_at hl 0 rfl) ?_
      refine lk_box hx hb hml hown hts hK hN hZ hS hA hl.1 (Nat.le_of_ble_eq_true (rfl)) (rest := [.ref y]) (⟨xw_mem 869 (by decide +kernel) rfl, xw_mem 48 (by decide +kernel) rfl, xw_mem 867 (by decide +kernel) rfl, by decide +kernel⟩ : xML RX12 51 yJ6_valueOf_2dffe cJ6_valueOf_2dffe 1 (some (.object "java/lang/Integer")) 1) (v := i) (by omega) hD hP ⟨by omega, by omega⟩ ⟨by omega, by omega⟩ dX12_cells_31 (fun H locs hP hD hS => ?_)
      have hPc := blk_P (bs := ([[(z, .inr (12, [.ref b, .ref q1, .ref q2, .ref q3, .ref q4, .ref q5, .ref q6, .ref q7])), (q1, .inl (cy 0, 6, .inl fh)), (q2, .inl (cy 0, 30, .inl fd)), (q4, .inl (cy 0, 30, .inl fs))], w] : List va_W)) 1 rfl rfl hP
      have hDc := blk_D (bs := ([[(z, .inr (12, [.ref b, .ref q1, .ref q2, .ref q3, .ref q4, .ref q5, .ref q6, .ref q7])), (q1, .inl (cy 0, 6, .inl fh)), (q2, .inl (cy 0, 30, .inl fd)), (q4, .inl (cy 0, 30, .inl fs))], w] : List va_W)) 1 rfl rfl hD
      refine lk_add hx hb hml hown hts hK hN hZ hS hA hl.1 (Nat.le_of_ble_eq_true (rfl)) (rest := []) (⟨xw_mem 890 (by decide +kernel) rfl, xw_mem 46 (by decide +kernel) rfl, xw_mem 887 (by decide +kernel) rfl, by decide +kernel⟩ : xML RX12 57 yJx4a65c_add_9ea2d cJx4a65c_add_9ea2d 2 (some .boolean) 1) (v := i) hw9 (by omega) hlen hPc hDc ⟨by omega, by omega⟩ ⟨by omega, by omega⟩ dX12_cells_34 (fun w2 H locs hw2 hPn hDn hS => ?_)
      have hP := blk_P2 (bs := ([[(z, .inr (12, [.ref b, .ref q1, .ref q2, .ref q3, .ref q4, .ref q5, .ref q6, .ref q7])), (q1, .inl (cy 0, 6, .inl fh)), (q2, .inl (cy 0, 30, .inl fd)), (q4, .inl (cy 0, 30, .inl fs))], w2] : List va_W)) 1 rfl rfl hPn
      have hD := blk_D2 (bs := ([[(z, .inr (12, [.ref b, .ref q1, .ref q2, .ref q3, .ref q4, .ref q5, .ref q6, .ref q7])), (q1, .inl (cy 0, 6, .inl fh)), (q2, .inl (cy 0, 30, .inl fd)), (q4, .inl (cy 0, 30, .inl fs))], w2] : List va_W)) 1 rfl rfl hDn
      refine lv_pop hx hb dX12_cells_37 rfl ?_
      refine lv_iinc (v := ki ((i + 1 : Nat) : Int)) (lv' := [(2, .int (ki ((i + 1 : Nat) : Int))), (0, .ref z), (1, .ref y)]) hx hb dX12_cells_38 hl (k := 0) rfl ((ki_add _ _).trans (congrArg ki (by omega))) (by decide) rfl (fun ls hl => ?_)
      refine lv_goto (tgt := 10) hx hb dX12_cells_41 (by decide) ?_
      exact ih (i + 1) (by omega) w2 _ _ (by rw [csI_t hc23]; exact hw2) (by omega) (by omega) H _ ls (lv_sub hl [0, 1, 2] rfl) hP hD hS
    · rw [show bi (isC L xs ((i : Int) / 5) ((i : Int) % 5)) = 0 from if_neg hc23]
      refine kv_if_eq_t (tgt := 38) hx hb (by omega) (by omega) (by omega) dX12_cells_26 (by decide) ?_
      refine lv_iinc (v := ki ((i + 1 : Nat) : Int)) (lv' := [(2, .int (ki ((i + 1 : Nat) : Int))), (0, .ref z), (1, .ref y)]) hx hb dX12_cells_38 hl (k := 0) rfl ((ki_add _ _).trans (congrArg ki (by omega))) (by decide) rfl (fun ls hl => ?_)
      refine lv_goto (tgt := 10) hx hb dX12_cells_41 (by decide) ?_
      exact ih (i + 1) (by omega) w _ _ (by rw [csI_f (by omega) hc23]; exact hw9) (by omega) (by omega) H _ ls (lv_sub hl [0, 1, 2] rfl) hP hD hS
end SC
set_option maxHeartbeats 2000000 in
set_option maxRecDepth 20000 in
theorem c_cells {z q1 q2 q3 q4 q5 q6 q7 : Nat} {fh fd fs : Nat → Int32} (hh : ∀ j : Nat, j < 6 → fh j = ki (hgS L xs j)) (sz : Nat) : Met l yX12_cells (Cond.code yX12_cells cX12_cells 3 (some (.object "java/util/ArrayList")) :: xTB) ({ frames := 9, cells := 31, slots := 3003, locals := 420 } : Room) (va_Pc [.ref z] (jP D cy mi zE zc ad [(z, .inr (12, [.ref b, .ref q1, .ref q2, .ref q3, .ref q4, .ref q5, .ref q6, .ref q7])), (q1, .inl (cy 0, 6, .inl fh)), (q2, .inl (cy 0, 30, .inl fd)), (q4, .inl (cy 0, 30, .inl fs))] sz)) (va_Qr (S := va_W) (fun _ => True) (fun u a t => isL cy zE ad a (csI L xs 30) u ∧ va_P D vwCl (List.flatten [[(z, .inr (12, [.ref b, .ref q1, .ref q2, .ref q3, .ref q4, .ref q5, .ref q6, .ref q7])), (q1, .inl (cy 0, 6, .inl fh)), (q2, .inl (cy 0, 30, .inl fd)), (q4, .inl (cy 0, 30, .inl fs))], u]) t.heap ∧ va_D (va_A [(z, .inr (12, [.ref b, .ref q1, .ref q2, .ref q3, .ref q4, .ref q5, .ref q6, .ref q7])), (q1, .inl (cy 0, 6, .inl fh)), (q2, .inl (cy 0, 30, .inl fd)), (q4, .inl (cy 0, 30, .inl fs))] sz) (List.flatten [[(z, .inr (12, [.ref b, .ref q1, .ref q2, .ref q3, .ref q4, .ref q5, .ref q6, .ref q7])), (q1, .inl (cy 0, 6, .inl fh)), (q2, .inl (cy 0, 30, .inl fd)), (q4, .inl (cy 0, 30, .inl fs))], u])) (va_A [(z, .inr (12, [.ref b, .ref q1, .ref q2, .ref q3, .ref q4, .ref q5, .ref q6, .ref q7])), (q1, .inl (cy 0, 6, .inl fh)), (q2, .inl (cy 0, 30, .inl fd)), (q4, .inl (cy 0, 30, .inl fs))] sz)) 31 3003 (va_A [(z, .inr (12, [.ref b, .ref q1, .ref q2, .ref q3, .ref q4, .ref q5, .ref q6, .ref q7])), (q1, .inl (cy 0, 6, .inl fh)), (q2, .inl (cy 0, 30, .inl fd)), (q4, .inl (cy 0, 30, .inl fs))] sz) := by
  refine Met.ofW (cc := cX12_cells) (maxL := 3) (ret := (some (.object "java/util/ArrayList"))) (by decide) rfl ?_
  intro p e s m args below meth c s₁ B hml hv
  obtain ⟨rfl, hsz, hP, hK, hD0, hN, hZ⟩ := hv
  subst hsz
  have hx := B.exec
  have hb := B.bytes
  have hr := B.returns
  have hts : ∀ w ∈ xTB, w.before ([.ref z] : List Value).toArray s = true := fun w hw => atoms_spec (ws := Cond.code yX12_cells cX12_cells 3 (some (.object "java/util/ArrayList")) :: xTB) B.pre w (List.mem_cons_of_mem _ hw)
  have hown : s.vm.findClass RX12 = some m.cls := findClass_of_methodNamed B.named
  have hlocks := B.notSynchronized
  have hl := lv_entry ([.ref z]) (n := 3) (Nat.le_of_ble_eq_true rfl)
  rw [lg_entry_eq]
  generalize (lg_sl ([.ref z]) ++ List.replicate (3 - (lg_sl ([.ref z])).length) Slot.unset).toArray = ls at hl ⊢
  have hl : lv_has ls 3 [(0, .ref z)] := hl
  have hD := hD0.self (sz := s.heap.size)
  generalize hAe : va_A [(z, .inr (12, [.ref b, .ref q1, .ref q2, .ref q3, .ref q4, .ref q5, .ref q6, .ref q7])), (q1, .inl (cy 0, 6, .inl fh)), (q2, .inl (cy 0, 30, .inl fd)), (q4, .inl (cy 0, 30, .inl fs))] s.heap.size = A at hD hZ ⊢
  have hA : ∀ q : Nat, s.heap.size ≤ q → A q := fun q h => by rw [← hAe]; exact Or.inr h
  have hS : va_S A s.heap s.heap [] := va_S.rf
  have hP : va_P D vwCl (List.flatten [[(z, .inr (12, [.ref b, .ref q1, .ref q2, .ref q3, .ref q4, .ref q5, .ref q6, .ref q7])), (q1, .inl (cy 0, 6, .inl fh)), (q2, .inl (cy 0, 30, .inl fd)), (q4, .inl (cy 0, 30, .inl fs))]]) s.heap := hP
  have hD : va_D A (List.flatten [[(z, .inr (12, [.ref b, .ref q1, .ref q2, .ref q3, .ref q4, .ref q5, .ref q6, .ref q7])), (q1, .inl (cy 0, 6, .inl fh)), (q2, .inl (cy 0, 30, .inl fd)), (q4, .inl (cy 0, 30, .inl fs))]]) := hD
  refine lk_newL hx hb hml hown hts hK hN hZ hS hA hl.1 (Nat.le_of_ble_eq_true (rfl)) (rest := []) (hts _ (xw_mem 834 (by decide +kernel) rfl)) (xw_mem 836 (by decide +kernel) rfl) hD hP ⟨Nat.le_of_ble_eq_true rfl, Nat.le_of_ble_eq_true rfl⟩ ⟨Nat.le_of_ble_eq_true rfl, Nat.le_of_ble_eq_true rfl⟩ (Nat.le_of_ble_eq_true (rfl)) dX12_cells_0 dX12_cells_3 dX12_cells_4 (fun y w H locs hw hPn hDn hS => ?_)
  have hP := blk_P2 (bs := ([[(z, .inr (12, [.ref b, .ref q1, .ref q2, .ref q3, .ref q4, .ref q5, .ref q6, .ref q7])), (q1, .inl (cy 0, 6, .inl fh)), (q2, .inl (cy 0, 30, .inl fd)), (q4, .inl (cy 0, 30, .inl fs))], w] : List va_W)) 1 rfl rfl hPn
  have hD := blk_D2 (bs := ([[(z, .inr (12, [.ref b, .ref q1, .ref q2, .ref q3, .ref q4, .ref q5, .ref q6, .ref q7])), (q1, .inl (cy 0, 6, .inl fh)), (q2, .inl (cy 0, 30, .inl fd)), (q4, .inl (cy 0, 30, .inl fs))], w] : List va_W)) 1 rfl rfl hDn
  refine lv_astore_n (lv' := [(1, .ref y), (0, .ref z)]) hx hb dX12_cells_7 rfl hl (by decide) rfl (fun ls hl => ?_)
  refine lv_iconst (v := ki 0) hx hb dX12_cells_8 rfl ?_
  refine lv_istore_n (lv' := [(2, .int (ki 0)), (1, .ref y), (0, .ref z)]) hx hb dX12_cells_9 rfl hl (by decide) rfl (fun ls hl => ?_)
  refine SC_L hx hb hml hown hts hK hN hZ hA ⟨Nat.le_of_ble_eq_true rfl, Nat.le_of_ble_eq_true rfl, Nat.le_of_ble_eq_true rfl, Nat.le_of_ble_eq_true rfl⟩ hh (fun w k n hw9 hk hn H locs ls hl hP hD hS => ?_) 30 0 (by omega) w _ _ hw (by omega) (by omega) H _ ls (lv_sub hl [0, 2, 1] rfl) hP hD hS
  refine lv_aload_n hx hb dX12_cells_44 rfl (lv_at hl 2 rfl) ?_
  refine W.widen (k := 31) (n := 3003) (by omega) (by omega) ?_
  exact W.aret (v := .ref y) (rt := .object "java/util/ArrayList") hx hb hr (Or.inl ⟨_, rfl⟩) (Or.inr ⟨_, rfl⟩) (fun t ht hW => ⟨⟨w, _, rfl, trivial, hw9, by rw [ht]; exact hP, hD⟩, hS.F ht⟩) hS.2.2 dX12_cells_45
section SB
variable {p : Program} {e : Env} {R : Room} {s : State} {m : MethodId} {args : Array Value} {below : List Frame} {meth : Method} {c : Code} {Q : State → Prop} {A : Nat → Prop}
variable {z q1 q2 q3 q4 q5 q6 q7 y q : Nat} {fh fd fs : Nat → Int32} {vs : List Nat}
abbrev bsC (L : Nat) (xs : Nat → Int32) (q : Nat) (j : Nat) : Prop := (j = 0 ∧ isC L xs ((q : Int) / 5) ((q : Int) % 5 + 1)) ∨ (j = 1 ∧ isC L xs ((q : Int) / 5) ((q : Int) % 5 - 1)) ∨ (j = 2 ∧ isC L xs ((q : Int) / 5 - 1) ((q : Int) % 5)) ∨ (j = 3 ∧ isC L xs ((q : Int) / 5 + 1) ((q : Int) % 5))
abbrev bsV (q j : Nat) : Nat := if j = 0 then q + 1 else if j = 1 then q - 1 else if j = 2 then q - 5 else q + 5
def bsO (L : Nat) (xs : Nat → Int32) (q j : Nat) : List Nat := if bsC L xs q j then [bsV q j] else []
def bsL (L : Nat) (xs : Nat → Int32) (q : Nat) : List Nat := (((bsO L xs q 0) ++ bsO L xs q 1) ++ bsO L xs q 2) ++ bsO L xs q 3
theorem bsO_len (L : Nat) (xs : Nat → Int32) (q j : Nat) : (bsO L xs q j).length ≤ 1 := by unfold bsO; split <;> simp
set_option maxHeartbeats 2000000 in
set_option maxRecDepth 20000 in
theorem SB_0 (hx : p.tables.exec = Jvm.exec) (hb : c.code = cX12_beside) (hml : c.maxLocals = 3) (hown : s.vm.findClass RX12 = some m.cls) (hts : ∀ w ∈ xTB, w.before args s = true) (hK : va_K D vwCl (xtyL cy) s) (hN : jN mi s) (hZ : jZ zE zc ad A s s.heap) (hA : ∀ q, s.heap.size ≤ q → A q) (hR : 8 ≤ R.frames ∧ 400 ≤ R.locals ∧ 5 ≤ R.cells ∧ 403 ≤ R.slots) (hh : ∀ j : Nat, j < 6 → fh j = ki (hgS L xs j)) {w : va_W} {k n : Nat} (hw9 : isL cy zE ad y vs w) (hq : q < 30) (hvs : vs.length ≤ 0) (hk : k ≤ 1) (hn : n ≤ 3) (kk : ∀ (w' : va_W) (k' n' : Nat) (hw9 : isL cy zE ad y (vs ++ bsO L xs q 0) w') (hk : k' ≤ 2) (hn : n' ≤ 103) (H : Heap) (locs : List Loc) (ls : Array Slot), lv_has ls 3 [(2, .ref y), (0, .ref z), (1, .int (ki (q : Int)))] → va_P D vwCl (List.flatten [[(z, .inr (12, [.ref b, .ref q1, .ref q2, .ref q3, .ref q4, .ref q5, .ref q6, .ref q7])), (q1, .inl (cy 0, 6, .inl fh)), (q2, .inl (cy 0, 30, .inl fd)), (q4, .inl (cy 0, 30, .inl fs))], w']) H → va_D A (List.flatten [[(z, .inr (12, [.ref b, .ref q1, .ref q2, .ref q3, .ref q4, .ref q5, .ref q6, .ref q7])), (q1, .inl (cy 0, 6, .inl fh)), (q2, .inl (cy 0, 30, .inl fd)), (q4, .inl (cy 0, 30, .inl fs))], w']) → va_S A s.heap H locs → W p l e R s m args below meth c H locs k' n' Q (F0 m 34 ls [])) {H : Heap} {locs : List Loc} {ls : Array Slot} (hl : lv_has ls 3 [(2, .ref y), (0, .ref z), (1, .int (ki (q : Int)))]) (hP : va_P D vwCl (List.flatten [[(z, .inr (12, [.ref b, .ref q1, .ref q2, .ref q3, .ref q4, .ref q5, .ref q6, .ref q7])), (q1, .inl (cy 0, 6, .inl fh)), (q2, .inl (cy 0, 30, .inl fd)), (q4, .inl (cy 0, 30, .inl fs))], w]) H) (hD : va_D A (List.flatten [[(z, .inr (12, [.ref b, .ref q1, .ref q2, .ref q3, .ref q4, .ref q5, .ref q6, .ref q7])), (q1, .inl (cy 0, 6, .inl fh)), (q2, .inl (cy 0, 30, .inl fd)), (q4, .inl (cy 0, 30, .inl fs))], w])) (hS : va_S A s.heap H locs) : W p l e R s m args below meth c H locs k n Q (F0 m 8 ls []) := by
  have hhg := hgS_b (L := L) (xs := xs) ((q : Int) / 5)
  refine lv_aload_n hx hb dX12_beside_8 rfl (lv_at hl 1 rfl) ?_
  refine lv_iload_n hx hb dX12_beside_9 rfl (lv_at hl 2 rfl) ?_
  refine lv_iconst (v := ki 5) hx hb dX12_beside_10 rfl ?_
  refine kv_div (r := (q : Int) / 5) hx hb (by omega) (by omega) (by omega) (by omega) rfl dX12_beside_11 ?_
  refine lv_iload_n hx hb dX12_beside_12 rfl (lv_at hl 2 rfl) ?_
  refine lv_iconst (v := ki 5) hx hb dX12_beside_13 rfl ?_
  refine kv_rem (r := (q : Int) % 5) hx hb (by omega) (by omega) (by omega) (by omega) rfl dX12_beside_14 ?_
  refine lv_iconst (v := ki 1) hx hb dX12_beside_15 rfl ?_
  refine kv_add (r := ((q : Int) % 5) + 1) hx hb rfl dX12_beside_16 ?_
  have hPc := blk_P (bs := ([[(z, .inr (12, [.ref b, .ref q1, .ref q2, .ref q3, .ref q4, .ref q5, .ref q6, .ref q7])), (q1, .inl (cy 0, 6, .inl fh)), (q2, .inl (cy 0, 30, .inl fd)), (q4, .inl (cy 0, 30, .inl fs))], w] : List va_W)) 0 rfl rfl hP
  have hDc := blk_D (bs := ([[(z, .inr (12, [.ref b, .ref q1, .ref q2, .ref q3, .ref q4, .ref q5, .ref q6, .ref q7])), (q1, .inl (cy 0, 6, .inl fh)), (q2, .inl (cy 0, 30, .inl fd)), (q4, .inl (cy 0, 30, .inl fs))], w] : List va_W)) 0 rfl rfl hD
  refine kc_Vi hx hb hml hown hts (⟨xw_mem 866 (by decide +kernel) rfl, xw_mem 43 (by decide +kernel) rfl, xw_mem 863 (by decide +kernel) rfl, by decide +kernel⟩ : xML RX12 47 yX12_is cX12_is 3 (some .boolean) 2) (xw_mem 864 (by decide +kernel) rfl) (xw_mem 865 (by decide +kernel) rfl) (va_recv hK hP (rfl : vwCl[12]? = some (RX12, TX12, 8)) (show ((List.flatten [[(z, .inr (12, [.ref b, .ref q1, .ref q2, .ref q3, .ref q4, .ref q5, .ref q6, .ref q7])), (q1, .inl (cy 0, 6, .inl fh)), (q2, .inl (cy 0, 30, .inl fd)), (q4, .inl (cy 0, 30, .inl fs))], w]))[0]? = _ from rfl)) hPc hDc hS hA [.int (ki ((q : Int) / 5)), .int (ki (((q : Int) % 5) + 1))] (rest := []) _ _ (c_is (by omega) (by omega) (by omega) (by omega) hh _) jP_bl (fun U hU hW => jP_to hPc hDc hS hA hK hN hZ hU hW) ⟨by omega, by omega⟩ (by omega) (by omega) rfl hl.1 rfl (Nat.le_of_ble_eq_true (rfl)) dX12_beside_17 (fun r u t H locs ht hw hB hz hJ hS => ?_)
  subst hw
  obtain ⟨hP1, hD1⟩ := hB
  rw [ht] at hP1
  obtain ⟨hPn, hDn⟩ := hJ _ hP1 hD1
  have hP := blk_P2 (bs := ([[(z, .inr (12, [.ref b, .ref q1, .ref q2, .ref q3, .ref q4, .ref q5, .ref q6, .ref q7])), (q1, .inl (cy 0, 6, .inl fh)), (q2, .inl (cy 0, 30, .inl fd)), (q4, .inl (cy 0, 30, .inl fs))], w] : List va_W)) 0 rfl rfl hPn
  have hD := blk_D2 (bs := ([[(z, .inr (12, [.ref b, .ref q1, .ref q2, .ref q3, .ref q4, .ref q5, .ref q6, .ref q7])), (q1, .inl (cy 0, 6, .inl fh)), (q2, .inl (cy 0, 30, .inl fd)), (q4, .inl (cy 0, 30, .inl fs))], w] : List va_W)) 0 rfl rfl hDn
  by_cases hc17 : isC L xs ((q : Int) / 5) ((q : Int) % 5 + 1)
  · rw [show bi (isC L xs ((q : Int) / 5) ((q : Int) % 5 + 1)) = 1 from if_pos hc17]
    refine kv_if_eq_f (tgt := 34) hx hb (by omega) (by omega) (by omega) dX12_beside_20 (by decide) ?_
    refine lv_aload_n hx hb dX12_beside_23 rfl (lv_at hl 0 rfl) ?_
    refine lv_iload_n hx hb dX12_beside_24 rfl (lv_at hl 2 rfl) ?_
    refine lv_iconst (v := ki 1) hx hb dX12_beside_25 rfl ?_
    obtain ⟨g1, g2, g3, g4⟩ := id hc17
    refine kv_add (r := ((q + 1 : Nat) : Int)) hx hb (by omega) dX12_beside_26 ?_
    refine lk_box hx hb hml hown hts hK hN hZ hS hA hl.1 (Nat.le_of_ble_eq_true (rfl)) (rest := [.ref y]) (⟨xw_mem 869 (by decide +kernel) rfl, xw_mem 48 (by decide +kernel) rfl, xw_mem 867 (by decide +kernel) rfl, by decide +kernel⟩ : xML RX12 51 yJ6_valueOf_2dffe cJ6_valueOf_2dffe 1 (some (.object "java/lang/Integer")) 1) (v := q + 1) (by omega) hD hP ⟨by omega, by omega⟩ ⟨by omega, by omega⟩ dX12_beside_27 (fun H locs hP hD hS => ?_)
    have hPc := blk_P (bs := ([[(z, .inr (12, [.ref b, .ref q1, .ref q2, .ref q3, .ref q4, .ref q5, .ref q6, .ref q7])), (q1, .inl (cy 0, 6, .inl fh)), (q2, .inl (cy 0, 30, .inl fd)), (q4, .inl (cy 0, 30, .inl fs))], w] : List va_W)) 1 rfl rfl hP
    have hDc := blk_D (bs := ([[(z, .inr (12, [.ref b, .ref q1, .ref q2, .ref q3, .ref q4, .ref q5, .ref q6, .ref q7])), (q1, .inl (cy 0, 6, .inl fh)), (q2, .inl (cy 0, 30, .inl fd)), (q4, .inl (cy 0, 30, .inl fs))], w] : List va_W)) 1 rfl rfl hD
    refine lk_add hx hb hml hown hts hK hN hZ hS hA hl.1 (Nat.le_of_ble_eq_true (rfl)) (rest := []) (⟨xw_mem 890 (by decide +kernel) rfl, xw_mem 46 (by decide +kernel) rfl, xw_mem 887 (by decide +kernel) rfl, by decide +kernel⟩ : xML RX12 57 yJx4a65c_add_9ea2d cJx4a65c_add_9ea2d 2 (some .boolean) 1) (v := q + 1) hw9 (by omega) (by omega) hPc hDc ⟨by omega, by omega⟩ ⟨by omega, by omega⟩ dX12_beside_30 (fun w2 H locs hw2 hPn hDn hS => ?_)
    have hP := blk_P2 (bs := ([[(z, .inr (12, [.ref b, .ref q1, .ref q2, .ref q3, .ref q4, .ref q5, .ref q6, .ref q7])), (q1, .inl (cy 0, 6, .inl fh)), (q2, .inl (cy 0, 30, .inl fd)), (q4, .inl (cy 0, 30, .inl fs))], w2] : List va_W)) 1 rfl rfl hPn
    have hD := blk_D2 (bs := ([[(z, .inr (12, [.ref b, .ref q1, .ref q2, .ref q3, .ref q4, .ref q5, .ref q6, .ref q7])), (q1, .inl (cy 0, 6, .inl fh)), (q2, .inl (cy 0, 30, .inl fd)), (q4, .inl (cy 0, 30, .inl fs))], w2] : List va_W)) 1 rfl rfl hDn
    refine lv_pop hx hb dX12_beside_33 rfl ?_
    exact kk w2 _ _ (by rw [show bsO L xs q 0 = [q + 1] from if_pos (Or.inl ⟨rfl, hc17⟩)]; exact hw2) (by omega) (by omega) H _ ls (lv_sub hl [0, 1, 2] rfl) hP hD hS
  · rw [show bi (isC L xs ((q : Int) / 5) ((q : Int) % 5 + 1)) = 0 from if_neg hc17]
    refine kv_if_eq_t (tgt := 34) hx hb (by omega) (by omega) (by omega) dX12_beside_20 (by decide) ?_
    exact kk w _ _ (by rw [show bsO L xs q 0 = [] from if_neg (by unfold bsC; simp only [hc17]; simp), List.append_nil]; exact hw9) (by omega) (by omega) H _ ls (lv_sub hl [0, 1, 2] rfl) hP hD hS
set_option maxHeartbeats 2000000 in
set_option maxRecDepth 20000 in
theorem SB_1 (hx : p.tables.exec = Jvm.exec) (hb : c.code = cX12_beside) (hml : c.maxLocals = 3) (hown : s.vm.findClass RX12 = some m.cls) (hts : ∀ w ∈ xTB, w.before args s = true) (hK : va_K D vwCl (xtyL cy) s) (hN : jN mi s) (hZ : jZ zE zc ad A s s.heap) (hA : ∀ q, s.heap.size ≤ q → A q) (hR : 8 ≤ R.frames ∧ 400 ≤ R.locals ∧ 5 ≤ R.cells ∧ 403 ≤ R.slots) (hh : ∀ j : Nat, j < 6 → fh j = ki (hgS L xs j)) {w : va_W} {k n : Nat} (hw9 : isL cy zE ad y vs w) (hq : q < 30) (hvs : vs.length ≤ 1) (hk : k ≤ 2) (hn : n ≤ 103) (kk : ∀ (w' : va_W) (k' n' : Nat) (hw9 : isL cy zE ad y (vs ++ bsO L xs q 1) w') (hk : k' ≤ 3) (hn : n' ≤ 203) (H : Heap) (locs : List Loc) (ls : Array Slot), lv_has ls 3 [(2, .ref y), (0, .ref z), (1, .int (ki (q : Int)))] → va_P D vwCl (List.flatten [[(z, .inr (12, [.ref b, .ref q1, .ref q2, .ref q3, .ref q4, .ref q5, .ref q6, .ref q7])), (q1, .inl (cy 0, 6, .inl fh)), (q2, .inl (cy 0, 30, .inl fd)), (q4, .inl (cy 0, 30, .inl fs))], w']) H → va_D A (List.flatten [[(z, .inr (12, [.ref b, .ref q1, .ref q2, .ref q3, .ref q4, .ref q5, .ref q6, .ref q7])), (q1, .inl (cy 0, 6, .inl fh)), (q2, .inl (cy 0, 30, .inl fd)), (q4, .inl (cy 0, 30, .inl fs))], w']) → va_S A s.heap H locs → W p l e R s m args below meth c H locs k' n' Q (F0 m 60 ls [])) {H : Heap} {locs : List Loc} {ls : Array Slot} (hl : lv_has ls 3 [(2, .ref y), (0, .ref z), (1, .int (ki (q : Int)))]) (hP : va_P D vwCl (List.flatten [[(z, .inr (12, [.ref b, .ref q1, .ref q2, .ref q3, .ref q4, .ref q5, .ref q6, .ref q7])), (q1, .inl (cy 0, 6, .inl fh)), (q2, .inl (cy 0, 30, .inl fd)), (q4, .inl (cy 0, 30, .inl fs))], w]) H) (hD : va_D A (List.flatten [[(z, .inr (12, [.ref b, .ref q1, .ref q2, .ref q3, .ref q4, .ref q5, .ref q6, .ref q7])), (q1, .inl (cy 0, 6, .inl fh)), (q2, .inl (cy 0, 30, .inl fd)), (q4, .inl (cy 0, 30, .inl fs))], w])) (hS : va_S A s.heap H locs) : W p l e R s m args below meth c H locs k n Q (F0 m 34 ls []) := by
  have hhg := hgS_b (L := L) (xs := xs) ((q : Int) / 5)
  refine lv_aload_n hx hb dX12_beside_34 rfl (lv_at hl 1 rfl) ?_
  refine lv_iload_n hx hb dX12_beside_35 rfl (lv_at hl 2 rfl) ?_
  refine lv_iconst (v := ki 5) hx hb dX12_beside_36 rfl ?_
  refine kv_div (r := (q : Int) / 5) hx hb (by omega) (by omega) (by omega) (by omega) rfl dX12_beside_37 ?_
  refine lv_iload_n hx hb dX12_beside_38 rfl (lv_at hl 2 rfl) ?_
  refine lv_iconst (v := ki 5) hx hb dX12_beside_39 rfl ?_
  refine kv_rem (r := (q : Int) % 5) hx hb (by omega) (by omega) (by omega) (by omega) rfl dX12_beside_40 ?_
  refine lv_iconst (v := ki 1) hx hb dX12_beside_41 rfl ?_
  refine kv_sub (r := ((q : Int) % 5) - 1) hx hb rfl dX12_beside_42 ?_
  have hPc := blk_P (bs := ([[(z, .inr (12, [.ref b, .ref q1, .ref q2, .ref q3, .ref q4, .ref q5, .ref q6, .ref q7])), (q1, .inl (cy 0, 6, .inl fh)), (q2, .inl (cy 0, 30, .inl fd)), (q4, .inl (cy 0, 30, .inl fs))], w] : List va_W)) 0 rfl rfl hP
  have hDc := blk_D (bs := ([[(z, .inr (12, [.ref b, .ref q1, .ref q2, .ref q3, .ref q4, .ref q5, .ref q6, .ref q7])), (q1, .inl (cy 0, 6, .inl fh)), (q2, .inl (cy 0, 30, .inl fd)), (q4, .inl (cy 0, 30, .inl fs))], w] : List va_W)) 0 rfl rfl hD
  refine kc_Vi hx hb hml hown hts (⟨xw_mem 866 (by decide +kernel) rfl, xw_mem 43 (by decide +kernel) rfl, xw_mem 863 (by decide +kernel) rfl, by decide +kernel⟩ : xML RX12 47 yX12_is cX12_is 3 (some .boolean) 2) (xw_mem 864 (by decide +kernel) rfl) (xw_mem 865 (by decide +kernel) rfl) (va_recv hK hP (rfl : vwCl[12]? = some (RX12, TX12, 8)) (show ((List.flatten [[(z, .inr (12, [.ref b, .ref q1, .ref q2, .ref q3, .ref q4, .ref q5, .ref q6, .ref q7])), (q1, .inl (cy 0, 6, .inl fh)), (q2, .inl (cy 0, 30, .inl fd)), (q4, .inl (cy 0, 30, .inl fs))], w]))[0]? = _ from rfl)) hPc hDc hS hA [.int (ki ((q : Int) / 5)), .int (ki (((q : Int) % 5) - 1))] (rest := []) _ _ (c_is (by omega) (by omega) (by omega) (by omega) hh _) jP_bl (fun U hU hW => jP_to hPc hDc hS hA hK hN hZ hU hW) ⟨by omega, by omega⟩ (by omega) (by omega) rfl hl.1 rfl (Nat.le_of_ble_eq_true (rfl)) dX12_beside_43 (fun r u t H locs ht hw hB hz hJ hS => ?_)
  subst hw
  obtain ⟨hP1, hD1⟩ := hB
  rw [ht] at hP1
  obtain ⟨hPn, hDn⟩ := hJ _ hP1 hD1
  have hP := blk_P2 (bs := ([[(z, .inr (12, [.ref b, .ref q1, .ref q2, .ref q3, .ref q4, .ref q5, .ref q6, .ref q7])), (q1, .inl (cy 0, 6, .inl fh)), (q2, .inl (cy 0, 30, .inl fd)), (q4, .inl (cy 0, 30, .inl fs))], w] : List va_W)) 0 rfl rfl hPn
  have hD := blk_D2 (bs := ([[(z, .inr (12, [.ref b, .ref q1, .ref q2, .ref q3, .ref q4, .ref q5, .ref q6, .ref q7])), (q1, .inl (cy 0, 6, .inl fh)), (q2, .inl (cy 0, 30, .inl fd)), (q4, .inl (cy 0, 30, .inl fs))], w] : List va_W)) 0 rfl rfl hDn
  by_cases hc43 : isC L xs ((q : Int) / 5) ((q : Int) % 5 - 1)
  · rw [show bi (isC L xs ((q : Int) / 5) ((q : Int) % 5 - 1)) = 1 from if_pos hc43]
    refine kv_if_eq_f (tgt := 60) hx hb (by omega) (by omega) (by omega) dX12_beside_46 (by decide) ?_
    refine lv_aload_n hx hb dX12_beside_49 rfl (lv_at hl 0 rfl) ?_
    refine lv_iload_n hx hb dX12_beside_50 rfl (lv_at hl 2 rfl) ?_
    refine lv_iconst (v := ki 1) hx hb dX12_beside_51 rfl ?_
    obtain ⟨g1, g2, g3, g4⟩ := id hc43
    refine kv_sub (r := ((q - 1 : Nat) : Int)) hx hb (by omega) dX12_beside_52 ?_
    refine lk_box hx hb hml hown hts hK hN hZ hS hA hl.1 (Nat.le_of_ble_eq_true (rfl)) (rest := [.ref y]) (⟨xw_mem 869 (by decide +kernel) rfl, xw_mem 48 (by decide +kernel) rfl, xw_mem 867 (by decide +kernel) rfl, by decide +kernel⟩ : xML RX12 51 yJ6_valueOf_2dffe cJ6_valueOf_2dffe 1 (some (.object "java/lang/Integer")) 1) (v := q - 1) (by omega) hD hP ⟨by omega, by omega⟩ ⟨by omega, by omega⟩ dX12_beside_53 (fun H locs hP hD hS => ?_)
    have hPc := blk_P (bs := ([[(z, .inr (12, [.ref b, .ref q1, .ref q2, .ref q3, .ref q4, .ref q5, .ref q6, .ref q7])), (q1, .inl (cy 0, 6, .inl fh)), (q2, .inl (cy 0, 30, .inl fd)), (q4, .inl (cy 0, 30, .inl fs))], w] : List va_W)) 1 rfl rfl hP
    have hDc := blk_D (bs := ([[(z, .inr (12, [.ref b, .ref q1, .ref q2, .ref q3, .ref q4, .ref q5, .ref q6, .ref q7])), (q1, .inl (cy 0, 6, .inl fh)), (q2, .inl (cy 0, 30, .inl fd)), (q4, .inl (cy 0, 30, .inl fs))], w] : List va_W)) 1 rfl rfl hD
    refine lk_add hx hb hml hown hts hK hN hZ hS hA hl.1 (Nat.le_of_ble_eq_true (rfl)) (rest := []) (⟨xw_mem 890 (by decide +kernel) rfl, xw_mem 46 (by decide +kernel) rfl, xw_mem 887 (by decide +kernel) rfl, by decide +kernel⟩ : xML RX12 57 yJx4a65c_add_9ea2d cJx4a65c_add_9ea2d 2 (some .boolean) 1) (v := q - 1) hw9 (by omega) (by omega) hPc hDc ⟨by omega, by omega⟩ ⟨by omega, by omega⟩ dX12_beside_56 (fun w2 H locs hw2 hPn hDn hS => ?_)
    have hP := blk_P2 (bs := ([[(z, .inr (12, [.ref b, .ref q1, .ref q2, .ref q3, .ref q4, .ref q5, .ref q6, .ref q7])), (q1, .inl (cy 0, 6, .inl fh)), (q2, .inl (cy 0, 30, .inl fd)), (q4, .inl (cy 0, 30, .inl fs))], w2] : List va_W)) 1 rfl rfl hPn
    have hD := blk_D2 (bs := ([[(z, .inr (12, [.ref b, .ref q1, .ref q2, .ref q3, .ref q4, .ref q5, .ref q6, .ref q7])), (q1, .inl (cy 0, 6, .inl fh)), (q2, .inl (cy 0, 30, .inl fd)), (q4, .inl (cy 0, 30, .inl fs))], w2] : List va_W)) 1 rfl rfl hDn
    refine lv_pop hx hb dX12_beside_59 rfl ?_
    exact kk w2 _ _ (by rw [show bsO L xs q 1 = [q - 1] from if_pos (Or.inr (Or.inl ⟨rfl, hc43⟩))]; exact hw2) (by omega) (by omega) H _ ls (lv_sub hl [0, 1, 2] rfl) hP hD hS
  · rw [show bi (isC L xs ((q : Int) / 5) ((q : Int) % 5 - 1)) = 0 from if_neg hc43]
    refine kv_if_eq_t (tgt := 60) hx hb (by omega) (by omega) (by omega) dX12_beside_46 (by decide) ?_
    exact kk w _ _ (by rw [show bsO L xs q 1 = [] from if_neg (by unfold bsC; simp only [hc43]; simp), List.append_nil]; exact hw9) (by omega) (by omega) H _ ls (lv_sub hl [0, 1, 2] rfl) hP hD hS
set_option maxHeartbeats 2000000 in
set_option maxRecDepth 20000 in
theorem SB_2 (hx : p.tables.exec = Jvm.exec) (hb : c.code = cX12_beside) (hml : c.maxLocals = 3) (hown : s.vm.findClass RX12 = some m.cls) (hts : ∀ w ∈ xTB, w.before args s = true) (hK : va_K D vwCl (xtyL cy) s) (hN : jN mi s) (hZ : jZ zE zc ad A s s.heap) (hA : ∀ q, s.heap.size ≤ q → A q) (hR : 8 ≤ R.frames ∧ 400 ≤ R.locals ∧ 5 ≤ R.cells ∧ 403 ≤ R.slots) (hh : ∀ j : Nat, j < 6 → fh j = ki (hgS L xs j)) {w : va_W} {k n : Nat} (hw9 : isL cy zE ad y vs w) (hq : q < 30) (hvs : vs.length ≤ 2) (hk : k ≤ 3) (hn : n ≤ 203) (kk : ∀ (w' : va_W) (k' n' : Nat) (hw9 : isL cy zE ad y (vs ++ bsO L xs q 2) w') (hk : k' ≤ 4) (hn : n' ≤ 303) (H : Heap) (locs : List Loc) (ls : Array Slot), lv_has ls 3 [(2, .ref y), (0, .ref z), (1, .int (ki (q : Int)))] → va_P D vwCl (List.flatten [[(z, .inr (12, [.ref b, .ref q1, .ref q2, .ref q3, .ref q4, .ref q5, .ref q6, .ref q7])), (q1, .inl (cy 0, 6, .inl fh)), (q2, .inl (cy 0, 30, .inl fd)), (q4, .inl (cy 0, 30, .inl fs))], w']) H → va_D A (List.flatten [[(z, .inr (12, [.ref b, .ref q1, .ref q2, .ref q3, .ref q4, .ref q5, .ref q6, .ref q7])), (q1, .inl (cy 0, 6, .inl fh)), (q2, .inl (cy 0, 30, .inl fd)), (q4, .inl (cy 0, 30, .inl fs))], w']) → va_S A s.heap H locs → W p l e R s m args below meth c H locs k' n' Q (F0 m 86 ls [])) {H : Heap} {locs : List Loc} {ls : Array Slot} (hl : lv_has ls 3 [(2, .ref y), (0, .ref z), (1, .int (ki (q : Int)))]) (hP : va_P D vwCl (List.flatten [[(z, .inr (12, [.ref b, .ref q1, .ref q2, .ref q3, .ref q4, .ref q5, .ref q6, .ref q7])), (q1, .inl (cy 0, 6, .inl fh)), (q2, .inl (cy 0, 30, .inl fd)), (q4, .inl (cy 0, 30, .inl fs))], w]) H) (hD : va_D A (List.flatten [[(z, .inr (12, [.ref b, .ref q1, .ref q2, .ref q3, .ref q4, .ref q5, .ref q6, .ref q7])), (q1, .inl (cy 0, 6, .inl fh)), (q2, .inl (cy 0, 30, .inl fd)), (q4, .inl (cy 0, 30, .inl fs))], w])) (hS : va_S A s.heap H locs) : W p l e R s m args below meth c H locs k n Q (F0 m 60 ls []) := by
  have hhg := hgS_b (L := L) (xs := xs) ((q : Int) / 5 - 1)
  refine lv_aload_n hx hb dX12_beside_60 rfl (lv_at hl 1 rfl) ?_
  refine lv_iload_n hx hb dX12_beside_61 rfl (lv_at hl 2 rfl) ?_
  refine lv_iconst (v := ki 5) hx hb dX12_beside_62 rfl ?_
  refine kv_div (r := (q : Int) / 5) hx hb (by omega) (by omega) (by omega) (by omega) rfl dX12_beside_63 ?_
  refine lv_iconst (v := ki 1) hx hb dX12_beside_64 rfl ?_
  refine kv_sub (r := ((q : Int) / 5) - 1) hx hb rfl dX12_beside_65 ?_
  refine lv_iload_n hx hb dX12_beside_66 rfl (lv_at hl 2 rfl) ?_
  refine lv_iconst (v := ki 5) hx hb dX12_beside_67 rfl ?_
  refine kv_rem (r := (q : Int) % 5) hx hb (by omega) (by omega) (by omega) (by omega) rfl dX12_beside_68 ?_
  have hPc := blk_P (bs := ([[(z, .inr (12, [.ref b, .ref q1, .ref q2, .ref q3, .ref q4, .ref q5, .ref q6, .ref q7])), (q1, .inl (cy 0, 6, .inl fh)), (q2, .inl (cy 0, 30, .inl fd)), (q4, .inl (cy 0, 30, .inl fs))], w] : List va_W)) 0 rfl rfl hP
  have hDc := blk_D (bs := ([[(z, .inr (12, [.ref b, .ref q1, .ref q2, .ref q3, .ref q4, .ref q5, .ref q6, .ref q7])), (q1, .inl (cy 0, 6, .inl fh)), (q2, .inl (cy 0, 30, .inl fd)), (q4, .inl (cy 0, 30, .inl fs))], w] : List va_W)) 0 rfl rfl hD
  refine kc_Vi hx hb hml hown hts (⟨xw_mem 866 (by decide +kernel) rfl, xw_mem 43 (by decide +kernel) rfl, xw_mem 863 (by decide +kernel) rfl, by decide +kernel⟩ : xML RX12 47 yX12_is cX12_is 3 (some .boolean) 2) (xw_mem 864 (by decide +kernel) rfl) (xw_mem 865 (by decide +kernel) rfl) (va_recv hK hP (rfl : vwCl[12]? = some (RX12, TX12, 8)) (show ((List.flatten [[(z, .inr (12, [.ref b, .ref q1, .ref q2, .ref q3, .ref q4, .ref q5, .ref q6, .ref q7])), (q1, .inl (cy 0, 6, .inl fh)), (q2, .inl (cy 0, 30, .inl fd)), (q4, .inl (cy 0, 30, .inl fs))], w]))[0]? = _ from rfl)) hPc hDc hS hA [.int (ki (((q : Int) / 5) - 1)), .int (ki ((q : Int) % 5))] (rest := []) _ _ (c_is (by omega) (by omega) (by omega) (by omega) hh _) jP_bl (fun U hU hW => jP_to hPc hDc hS hA hK hN hZ hU hW) ⟨by omega, by omega⟩ (by omega) (by omega) rfl hl.1 rfl (Nat.le_of_ble_eq_true (rfl)) dX12_beside_69 (fun r u t H locs ht hw hB hz hJ hS => ?_)
  subst hw
  obtain ⟨hP1, hD1⟩ := hB
  rw [ht] at hP1
  obtain ⟨hPn, hDn⟩ := hJ _ hP1 hD1
  have hP := blk_P2 (bs := ([[(z, .inr (12, [.ref b, .ref q1, .ref q2, .ref q3, .ref q4, .ref q5, .ref q6, .ref q7])), (q1, .inl (cy 0, 6, .inl fh)), (q2, .inl (cy 0, 30, .inl fd)), (q4, .inl (cy 0, 30, .inl fs))], w] : List va_W)) 0 rfl rfl hPn
  have hD := blk_D2 (bs := ([[(z, .inr (12, [.ref b, .ref q1, .ref q2, .ref q3, .ref q4, .ref q5, .ref q6, .ref q7])), (q1, .inl (cy 0, 6, .inl fh)), (q2, .inl (cy 0, 30, .inl fd)), (q4, .inl (cy 0, 30, .inl fs))], w] : List va_W)) 0 rfl rfl hDn
  by_cases hc69 : isC L xs ((q : Int) / 5 - 1) ((q : Int) % 5)
  · rw [show bi (isC L xs ((q : Int) / 5 - 1) ((q : Int) % 5)) = 1 from if_pos hc69]
    refine kv_if_eq_f (tgt := 86) hx hb (by omega) (by omega) (by omega) dX12_beside_72 (by decide) ?_
    refine lv_aload_n hx hb dX12_beside_75 rfl (lv_at hl 0 rfl) ?_
    refine lv_iload_n hx hb dX12_beside_76 rfl (lv_at hl 2 rfl) ?_
    refine lv_iconst (v := ki 5) hx hb dX12_beside_77 rfl ?_
    obtain ⟨g1, g2, g3, g4⟩ := id hc69
    refine kv_sub (r := ((q - 5 : Nat) : Int)) hx hb (by omega) dX12_beside_78 ?_
    refine lk_box hx hb hml hown hts hK hN hZ hS hA hl.1 (Nat.le_of_ble_eq_true (rfl)) (rest := [.ref y]) (⟨xw_mem 869 (by decide +kernel) rfl, xw_mem 48 (by decide +kernel) rfl, xw_mem 867 (by decide +kernel) rfl, by decide +kernel⟩ : xML RX12 51 yJ6_valueOf_2dffe cJ6_valueOf_2dffe 1 (some (.object "java/lang/Integer")) 1) (v := q - 5) (by omega) hD hP ⟨by omega, by omega⟩ ⟨by omega, by omega⟩ dX12_beside_79 (fun H locs hP hD hS => ?_)
    have hPc := blk_P (bs := ([[(z, .inr (12, [.ref b, .ref q1, .ref q2, .ref q3, .ref q4, .ref q5, .ref q6, .ref q7])), (q1, .inl (cy 0, 6, .inl fh)), (q2, .inl (cy 0, 30, .inl fd)), (q4, .inl (cy 0, 30, .inl fs))], w] : List va_W)) 1 rfl rfl hP
    have hDc := blk_D (bs := ([[(z, .inr (12, [.ref b, .ref q1, .ref q2, .ref q3, .ref q4, .ref q5, .ref q6, .ref q7])), (q1, .inl (cy 0, 6, .inl fh)), (q2, .inl (cy 0, 30, .inl fd)), (q4, .inl (cy 0, 30, .inl fs))], w] : List va_W)) 1 rfl rfl hD
    refine lk_add hx hb hml hown hts hK hN hZ hS hA hl.1 (Nat.le_of_ble_eq_true (rfl)) (rest := []) (⟨xw_mem 890 (by decide +kernel) rfl, xw_mem 46 (by decide +kernel) rfl, xw_mem 887 (by decide +kernel) rfl, by decide +kernel⟩ : xML RX12 57 yJx4a65c_add_9ea2d cJx4a65c_add_9ea2d 2 (some .boolean) 1) (v := q - 5) hw9 (by omega) (by omega) hPc hDc ⟨by omega, by omega⟩ ⟨by omega, by omega⟩ dX12_beside_82 (fun w2 H locs hw2 hPn hDn hS => ?_)
    have hP := blk_P2 (bs := ([[(z, .inr (12, [.ref b, .ref q1, .ref q2, .ref q3, .ref q4, .ref q5, .ref q6, .ref q7])), (q1, .inl (cy 0, 6, .inl fh)), (q2, .inl (cy 0, 30, .inl fd)), (q4, .inl (cy 0, 30, .inl fs))], w2] : List va_W)) 1 rfl rfl hPn
    have hD := blk_D2 (bs := ([[(z, .inr (12, [.ref b, .ref q1, .ref q2, .ref q3, .ref q4, .ref q5, .ref q6, .ref q7])), (q1, .inl (cy 0, 6, .inl fh)), (q2, .inl (cy 0, 30, .inl fd)), (q4, .inl (cy 0, 30, .inl fs))], w2] : List va_W)) 1 rfl rfl hDn
    refine lv_pop hx hb dX12_beside_85 rfl ?_
    exact kk w2 _ _ (by rw [show bsO L xs q 2 = [q - 5] from if_pos (Or.inr (Or.inr (Or.inl ⟨rfl, hc69⟩)))]; exact hw2) (by omega) (by omega) H _ ls (lv_sub hl [0, 1, 2] rfl) hP hD hS
  · rw [show bi (isC L xs ((q : Int) / 5 - 1) ((q : Int) % 5)) = 0 from if_neg hc69]
    refine kv_if_eq_t (tgt := 86) hx hb (by omega) (by omega) (by omega) dX12_beside_72 (by decide) ?_
    exact kk w _ _ (by rw [show bsO L xs q 2 = [] from if_neg (by unfold bsC; simp only [hc69]; simp), List.append_nil]; exact hw9) (by omega) (by omega) H _ ls (lv_sub hl [0, 1, 2] rfl) hP hD hS
set_option maxHeartbeats 2000000 in
set_option maxRecDepth 20000 in
theorem SB_3 (hx : p.tables.exec = Jvm.exec) (hb : c.code = cX12_beside) (hml : c.maxLocals = 3) (hown : s.vm.findClass RX12 = some m.cls) (hts : ∀ w ∈ xTB, w.before args s = true) (hK : va_K D vwCl (xtyL cy) s) (hN : jN mi s) (hZ : jZ zE zc ad A s s.heap) (hA : ∀ q, s.heap.size ≤ q → A q) (hR : 8 ≤ R.frames ∧ 400 ≤ R.locals ∧ 5 ≤ R.cells ∧ 403 ≤ R.slots) (hh : ∀ j : Nat, j < 6 → fh j = ki (hgS L xs j)) {w : va_W} {k n : Nat} (hw9 : isL cy zE ad y vs w) (hq : q < 30) (hvs : vs.length ≤ 3) (hk : k ≤ 4) (hn : n ≤ 303) (kk : ∀ (w' : va_W) (k' n' : Nat) (hw9 : isL cy zE ad y (vs ++ bsO L xs q 3) w') (hk : k' ≤ 5) (hn : n' ≤ 403) (H : Heap) (locs : List Loc) (ls : Array Slot), lv_has ls 3 [(2, .ref y), (0, .ref z), (1, .int (ki (q : Int)))] → va_P D vwCl (List.flatten [[(z, .inr (12, [.ref b, .ref q1, .ref q2, .ref q3, .ref q4, .ref q5, .ref q6, .ref q7])), (q1, .inl (cy 0, 6, .inl fh)), (q2, .inl (cy 0, 30, .inl fd)), (q4, .inl (cy 0, 30, .inl fs))], w']) H → va_D A (List.flatten [[(z, .inr (12, [.ref b, .ref q1, .ref q2, .ref q3, .ref q4, .ref q5, .ref q6, .ref q7])), (q1, .inl (cy 0, 6, .inl fh)), (q2, .inl (cy 0, 30, .inl fd)), (q4, .inl (cy 0, 30, .inl fs))], w']) → va_S A s.heap H locs → W p l e R s m args below meth c H locs k' n' Q (F0 m 112 ls [])) {H : Heap} {locs : List Loc} {ls : Array Slot} (hl : lv_has ls 3 [(2, .ref y), (0, .ref z), (1, .int (ki (q : Int)))]) (hP : va_P D vwCl (List.flatten [[(z, .inr (12, [.ref b, .ref q1, .ref q2, .ref q3, .ref q4, .ref q5, .ref q6, .ref q7])), (q1, .inl (cy 0, 6, .inl fh)), (q2, .inl (cy 0, 30, .inl fd)), (q4, .inl (cy 0, 30, .inl fs))], w]) H) (hD : va_D A (List.flatten [[(z, .inr (12, [.ref b, .ref q1, .ref q2, .ref q3, .ref q4, .ref q5, .ref q6, .ref q7])), (q1, .inl (cy 0, 6, .inl fh)), (q2, .inl (cy 0, 30, .inl fd)), (q4, .inl (cy 0, 30, .inl fs))], w])) (hS : va_S A s.heap H locs) : W p l e R s m args below meth c H locs k n Q (F0 m 86 ls []) := by
  have hhg := hgS_b (L := L) (xs := xs) ((q : Int) / 5 + 1)
  refine lv_aload_n hx hb dX12_beside_86 rfl (lv_at hl 1 rfl) ?_
  refine lv_iload_n hx hb dX12_beside_87 rfl (lv_at hl 2 rfl) ?_
  refine lv_iconst (v := ki 5) hx hb dX12_beside_88 rfl ?_
  refine kv_div (r := (q : Int) / 5) hx hb (by omega) (by omega) (by omega) (by omega) rfl dX12_beside_89 ?_
  refine lv_iconst (v := ki 1) hx hb dX12_beside_90 rfl ?_
  refine kv_add (r := ((q : Int) / 5) + 1) hx hb rfl dX12_beside_91 ?_
  refine lv_iload_n hx hb dX12_beside_92 rfl (lv_at hl 2 rfl) ?_
  refine lv_iconst (v := ki 5) hx hb dX12_beside_93 rfl ?_
  refine kv_rem (r := (q : Int) % 5) hx hb (by omega) (by omega) (by omega) (by omega) rfl dX12_beside_94 ?_
  have hPc := blk_P (bs := ([[(z, .inr (12, [.ref b, .ref q1, .ref q2, .ref q3, .ref q4, .ref q5, .ref q6, .ref q7])), (q1, .inl (cy 0, 6, .inl fh)), (q2, .inl (cy 0, 30, .inl fd)), (q4, .inl (cy 0, 30, .inl fs))], w] : List va_W)) 0 rfl rfl hP
  have hDc := blk_D (bs := ([[(z, .inr (12, [.ref b, .ref q1, .ref q2, .ref q3, .ref q4, .ref q5, .ref q6, .ref q7])), (q1, .inl (cy 0, 6, .inl fh)), (q2, .inl (cy 0, 30, .inl fd)), (q4, .inl (cy 0, 30, .inl fs))], w] : List va_W)) 0 rfl rfl hD
  refine kc_Vi hx hb hml hown hts (⟨xw_mem 866 (by decide +kernel) rfl, xw_mem 43 (by decide +kernel) rfl, xw_mem 863 (by decide +kernel) rfl, by decide +kernel⟩ : xML RX12 47 yX12_is cX12_is 3 (some .boolean) 2) (xw_mem 864 (by decide +kernel) rfl) (xw_mem 865 (by decide +kernel) rfl) (va_recv hK hP (rfl : vwCl[12]? = some (RX12, TX12, 8)) (show ((List.flatten [[(z, .inr (12, [.ref b, .ref q1, .ref q2, .ref q3, .ref q4, .ref q5, .ref q6, .ref q7])), (q1, .inl (cy 0, 6, .inl fh)), (q2, .inl (cy 0, 30, .inl fd)), (q4, .inl (cy 0, 30, .inl fs))], w]))[0]? = _ from rfl)) hPc hDc hS hA [.int (ki (((q : Int) / 5) + 1)), .int (ki ((q : Int) % 5))] (rest := []) _ _ (c_is (by omega) (by omega) (by omega) (by omega) hh _) jP_bl (fun U hU hW => jP_to hPc hDc hS hA hK hN hZ hU hW) ⟨by omega, by omega⟩ (by omega) (by omega) rfl hl.1 rfl (Nat.le_of_ble_eq_true (rfl)) dX12_beside_95 (fun r u t H locs ht hw hB hz hJ hS => ?_)
  subst hw
  obtain ⟨hP1, hD1⟩ := hB
  rw [ht] at hP1
  obtain ⟨hPn, hDn⟩ := hJ _ hP1 hD1
  have hP := blk_P2 (bs := ([[(z, .inr (12, [.ref b, .ref q1, .ref q2, .ref q3, .ref q4, .ref q5, .ref q6, .ref q7])), (q1, .inl (cy 0, 6, .inl fh)), (q2, .inl (cy 0, 30, .inl fd)), (q4, .inl (cy 0, 30, .inl fs))], w] : List va_W)) 0 rfl rfl hPn
  have hD := blk_D2 (bs := ([[(z, .inr (12, [.ref b, .ref q1, .ref q2, .ref q3, .ref q4, .ref q5, .ref q6, .ref q7])), (q1, .inl (cy 0, 6, .inl fh)), (q2, .inl (cy 0, 30, .inl fd)), (q4, .inl (cy 0, 30, .inl fs))], w] : List va_W)) 0 rfl rfl hDn
  by_cases hc95 : isC L xs ((q : Int) / 5 + 1) ((q : Int) % 5)
  · rw [show bi (isC L xs ((q : Int) / 5 + 1) ((q : Int) % 5)) = 1 from if_pos hc95]
    refine kv_if_eq_f (tgt := 112) hx hb (by omega) (by omega) (by omega) dX12_beside_98 (by decide) ?_
    refine lv_aload_n hx hb dX12_beside_101 rfl (lv_at hl 0 rfl) ?_
    refine lv_iload_n hx hb dX12_beside_102 rfl (lv_at hl 2 rfl) ?_
    refine lv_iconst (v := ki 5) hx hb dX12_beside_103 rfl ?_
    obtain ⟨g1, g2, g3, g4⟩ := id hc95
    refine kv_add (r := ((q + 5 : Nat) : Int)) hx hb (by omega) dX12_beside_104 ?_
    refine lk_box hx hb hml hown hts hK hN hZ hS hA hl.1 (Nat.le_of_ble_eq_true (rfl)) (rest := [.ref y]) (⟨xw_mem 869 (by decide +kernel) rfl, xw_mem 48 (by decide +kernel) rfl, xw_mem 867 (by decide +kernel) rfl, by decide +kernel⟩ : xML RX12 51 yJ6_valueOf_2dffe cJ6_valueOf_2dffe 1 (some (.object "java/lang/Integer")) 1) (v := q + 5) (by omega) hD hP ⟨by omega, by omega⟩ ⟨by omega, by omega⟩ dX12_beside_105 (fun H locs hP hD hS => ?_)
    have hPc := blk_P (bs := ([[(z, .inr (12, [.ref b, .ref q1, .ref q2, .ref q3, .ref q4, .ref q5, .ref q6, .ref q7])), (q1, .inl (cy 0, 6, .inl fh)), (q2, .inl (cy 0, 30, .inl fd)), (q4, .inl (cy 0, 30, .inl fs))], w] : List va_W)) 1 rfl rfl hP
    have hDc := blk_D (bs := ([[(z, .inr (12, [.ref b, .ref q1, .ref q2, .ref q3, .ref q4, .ref q5, .ref q6, .ref q7])), (q1, .inl (cy 0, 6, .inl fh)), (q2, .inl (cy 0, 30, .inl fd)), (q4, .inl (cy 0, 30, .inl fs))], w] : List va_W)) 1 rfl rfl hD
    refine lk_add hx hb hml hown hts hK hN hZ hS hA hl.1 (Nat.le_of_ble_eq_true (rfl)) (rest := []) (⟨xw_mem 890 (by decide +kernel) rfl, xw_mem 46 (by decide +kernel) rfl, xw_mem 887 (by decide +kernel) rfl, by decide +kernel⟩ : xML RX12 57 yJx4a65c_add_9ea2d cJx4a65c_add_9ea2d 2 (some .boolean) 1) (v := q + 5) hw9 (by omega) (by omega) hPc hDc ⟨by omega, by omega⟩ ⟨by omega, by omega⟩ dX12_beside_108 (fun w2 H locs hw2 hPn hDn hS => ?_)
    have hP := blk_P2 (bs := ([[(z, .inr (12, [.ref b, .ref q1, .ref q2, .ref q3, .ref q4, .ref q5, .ref q6, .ref q7])), (q1, .inl (cy 0, 6, .inl fh)), (q2, .inl (cy 0, 30, .inl fd)), (q4, .inl (cy 0, 30, .inl fs))], w2] : List va_W)) 1 rfl rfl hPn
    have hD := blk_D2 (bs := ([[(z, .inr (12, [.ref b, .ref q1, .ref q2, .ref q3, .ref q4, .ref q5, .ref q6, .ref q7])), (q1, .inl (cy 0, 6, .inl fh)), (q2, .inl (cy 0, 30, .inl fd)), (q4, .inl (cy 0, 30, .inl fs))], w2] : List va_W)) 1 rfl rfl hDn
    refine lv_pop hx hb dX12_beside_111 rfl ?_
    exact kk w2 _ _ (by rw [show bsO L xs q 3 = [q + 5] from if_pos (Or.inr (Or.inr (Or.inr (⟨rfl, hc95⟩))))]; exact hw2) (by omega) (by omega) H _ ls (lv_sub hl [0, 1, 2] rfl) hP hD hS
  · rw [show bi (isC L xs ((q : Int) / 5 + 1) ((q : Int) % 5)) = 0 from if_neg hc95]
    refine kv_if_eq_t (tgt := 112) hx hb (by omega) (by omega) (by omega) dX12_beside_98 (by decide) ?_
    exact kk w _ _ (by rw [show bsO L xs q 3 = [] from if_neg (by unfold bsC; simp only [hc95]; simp), List.append_nil]; exact hw9) (by omega) (by omega) H _ ls (lv_sub hl [0, 1, 2] rfl) hP hD hS
end SB
set_option maxHeartbeats 2000000 in
set_option maxRecDepth 20000 in
theorem c_beside {z q1 q2 q3 q4 q5 q6 q7 : Nat} {fh fd fs : Nat → Int32} {q : Nat} (hq : q < 30) (hh : ∀ j : Nat, j < 6 → fh j = ki (hgS L xs j)) (sz : Nat) : Met l yX12_beside (Cond.code yX12_beside cX12_beside 3 (some (.object "java/util/ArrayList")) :: xTB) ({ frames := 9, cells := 5, slots := 403, locals := 420 } : Room) (va_Pc [.ref z, .int (ki (q : Int))] (jP D cy mi zE zc ad [(z, .inr (12, [.ref b, .ref q1, .ref q2, .ref q3, .ref q4, .ref q5, .ref q6, .ref q7])), (q1, .inl (cy 0, 6, .inl fh)), (q2, .inl (cy 0, 30, .inl fd)), (q4, .inl (cy 0, 30, .inl fs))] sz)) (va_Qr (S := va_W) (fun _ => True) (fun u a t => isL cy zE ad a (bsL L xs q) u ∧ va_P D vwCl (List.flatten [[(z, .inr (12, [.ref b, .ref q1, .ref q2, .ref q3, .ref q4, .ref q5, .ref q6, .ref q7])), (q1, .inl (cy 0, 6, .inl fh)), (q2, .inl (cy 0, 30, .inl fd)), (q4, .inl (cy 0, 30, .inl fs))], u]) t.heap ∧ va_D (va_A [(z, .inr (12, [.ref b, .ref q1, .ref q2, .ref q3, .ref q4, .ref q5, .ref q6, .ref q7])), (q1, .inl (cy 0, 6, .inl fh)), (q2, .inl (cy 0, 30, .inl fd)), (q4, .inl (cy 0, 30, .inl fs))] sz) (List.flatten [[(z, .inr (12, [.ref b, .ref q1, .ref q2, .ref q3, .ref q4, .ref q5, .ref q6, .ref q7])), (q1, .inl (cy 0, 6, .inl fh)), (q2, .inl (cy 0, 30, .inl fd)), (q4, .inl (cy 0, 30, .inl fs))], u])) (va_A [(z, .inr (12, [.ref b, .ref q1, .ref q2, .ref q3, .ref q4, .ref q5, .ref q6, .ref q7])), (q1, .inl (cy 0, 6, .inl fh)), (q2, .inl (cy 0, 30, .inl fd)), (q4, .inl (cy 0, 30, .inl fs))] sz)) 5 403 (va_A [(z, .inr (12, [.ref b, .ref q1, .ref q2, .ref q3, .ref q4, .ref q5, .ref q6, .ref q7])), (q1, .inl (cy 0, 6, .inl fh)), (q2, .inl (cy 0, 30, .inl fd)), (q4, .inl (cy 0, 30, .inl fs))] sz) := by
  refine Met.ofW (cc := cX12_beside) (maxL := 3) (ret := (some (.object "java/util/ArrayList"))) (by decide) rfl ?_
  intro p e s m args below meth c s₁ B hml hv
  obtain ⟨rfl, hsz, hP, hK, hD0, hN, hZ⟩ := hv
  subst hsz
  have hx := B.exec
  have hb := B.bytes
  have hr := B.returns
  have hts : ∀ w ∈ xTB, w.before ([.ref z, .int (ki (q : Int))] : List Value).toArray s = true := fun w hw => atoms_spec (ws := Cond.code yX12_beside cX12_beside 3 (some (.object "java/util/ArrayList")) :: xTB) B.pre w (List.mem_cons_of_mem _ hw)
  have hown : s.vm.findClass RX12 = some m.cls := findClass_of_methodNamed B.named
  have hlocks := B.notSynchronized
  have hl := lv_entry ([.ref z, .int (ki (q : Int))]) (n := 3) (Nat.le_of_ble_eq_true rfl)
  rw [lg_entry_eq]
  generalize (lg_sl ([.ref z, .int (ki (q : Int))]) ++ List.replicate (3 - (lg_sl ([.ref z, .int (ki (q : Int))])).length) Slot.unset).toArray = ls at hl ⊢
  have hl : lv_has ls 3 [(0, .ref z), (1, .int (ki (q : Int)))] := hl
  have hD := hD0.self (sz := s.heap.size)
  generalize hAe : va_A [(z, .inr (12, [.ref b, .ref q1, .ref q2, .ref q3, .ref q4, .ref q5, .ref q6, .ref q7])), (q1, .inl (cy 0, 6, .inl fh)), (q2, .inl (cy 0, 30, .inl fd)), (q4, .inl (cy 0, 30, .inl fs))] s.heap.size = A at hD hZ ⊢
  have hA : ∀ q : Nat, s.heap.size ≤ q → A q := fun q h => by rw [← hAe]; exact Or.inr h
  have hS : va_S A s.heap s.heap [] := va_S.rf
  have hP : va_P D vwCl (List.flatten [[(z, .inr (12, [.ref b, .ref q1, .ref q2, .ref q3, .ref q4, .ref q5, .ref q6, .ref q7])), (q1, .inl (cy 0, 6, .inl fh)), (q2, .inl (cy 0, 30, .inl fd)), (q4, .inl (cy 0, 30, .inl fs))]]) s.heap := hP
  have hD : va_D A (List.flatten [[(z, .inr (12, [.ref b, .ref q1, .ref q2, .ref q3, .ref q4, .ref q5, .ref q6, .ref q7])), (q1, .inl (cy 0, 6, .inl fh)), (q2, .inl (cy 0, 30, .inl fd)), (q4, .inl (cy 0, 30, .inl fs))]]) := hD
  refine lk_newL hx hb hml hown hts hK hN hZ hS hA hl.1 (Nat.le_of_ble_eq_true (rfl)) (rest := []) (hts _ (xw_mem 834 (by decide +kernel) rfl)) (xw_mem 836 (by decide +kernel) rfl) hD hP ⟨Nat.le_of_ble_eq_true rfl, Nat.le_of_ble_eq_true rfl⟩ ⟨Nat.le_of_ble_eq_true rfl, Nat.le_of_ble_eq_true rfl⟩ (Nat.le_of_ble_eq_true (rfl)) dX12_beside_0 dX12_beside_3 dX12_beside_4 (fun y w H locs hw hPn hDn hS => ?_)
  have hP := blk_P2 (bs := ([[(z, .inr (12, [.ref b, .ref q1, .ref q2, .ref q3, .ref q4, .ref q5, .ref q6, .ref q7])), (q1, .inl (cy 0, 6, .inl fh)), (q2, .inl (cy 0, 30, .inl fd)), (q4, .inl (cy 0, 30, .inl fs))], w] : List va_W)) 1 rfl rfl hPn
  have hD := blk_D2 (bs := ([[(z, .inr (12, [.ref b, .ref q1, .ref q2, .ref q3, .ref q4, .ref q5, .ref q6, .ref q7])), (q1, .inl (cy 0, 6, .inl fh)), (q2, .inl (cy 0, 30, .inl fd)), (q4, .inl (cy 0, 30, .inl fs))], w] : List va_W)) 1 rfl rfl hDn
  refine lv_astore_n (lv' := [(2, .ref y), (0, .ref z), (1, .int (ki (q : Int)))]) hx hb dX12_beside_7 rfl hl (by decide) rfl (fun ls hl => ?_)
  have d0 := bsO_len L xs q 0
  have d1 := bsO_len L xs q 1
  have d2 := bsO_len L xs q 2
  refine SB_0 hx hb hml hown hts hK hN hZ hA ⟨Nat.le_of_ble_eq_true rfl, Nat.le_of_ble_eq_true rfl, Nat.le_of_ble_eq_true rfl, Nat.le_of_ble_eq_true rfl⟩ hh (vs := []) hw hq (by simp) (by omega) (by omega) (fun w k n hw hk hn H locs ls hl hP hD hS => ?_) (lv_sub hl [0, 1, 2] rfl) hP hD hS
  refine SB_1 hx hb hml hown hts hK hN hZ hA ⟨Nat.le_of_ble_eq_true rfl, Nat.le_of_ble_eq_true rfl, Nat.le_of_ble_eq_true rfl, Nat.le_of_ble_eq_true rfl⟩ hh hw hq (by simp; omega) hk hn (fun w k n hw hk hn H locs ls hl hP hD hS => ?_) hl hP hD hS
  refine SB_2 hx hb hml hown hts hK hN hZ hA ⟨Nat.le_of_ble_eq_true rfl, Nat.le_of_ble_eq_true rfl, Nat.le_of_ble_eq_true rfl, Nat.le_of_ble_eq_true rfl⟩ hh hw hq (by simp; omega) hk hn (fun w k n hw hk hn H locs ls hl hP hD hS => ?_) hl hP hD hS
  refine SB_3 hx hb hml hown hts hK hN hZ hA ⟨Nat.le_of_ble_eq_true rfl, Nat.le_of_ble_eq_true rfl, Nat.le_of_ble_eq_true rfl, Nat.le_of_ble_eq_true rfl⟩ hh hw hq (by simp; omega) hk hn (fun w k n hw hk hn H locs ls hl hP hD hS => ?_) hl hP hD hS
  refine lv_aload_n hx hb dX12_beside_112 rfl (lv_at hl 0 rfl) ?_
  refine W.widen (k := 5) (n := 403) (by omega) (by omega) ?_
  exact W.aret (v := .ref y) (rt := .object "java/util/ArrayList") hx hb hr (Or.inl ⟨_, rfl⟩) (Or.inr ⟨_, rfl⟩) (fun t ht hW => ⟨⟨w, _, rfl, trivial, hw, by rw [ht]; exact hP, hD⟩, hS.F ht⟩) hS.2.2 dX12_beside_113
end C6
