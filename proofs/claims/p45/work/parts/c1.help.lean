/-! part c1: the law's small methods (made by wip/p45/gen_c1.py) -/
def scP (b L : Nat) (xs : Nat → Int32) (U : State) : Prop := b < U.heap.size ∧ va_X b L xs U U.heap
def ceS (L : Nat) (xs : Nat → Int32) (i : Int) : Int := if i < (L : Int) then (((xs i.toNat).toBitVec.toNat % 2 ^ 24 : Nat) : Int) else i * 9067
def hgS (L : Nat) (xs : Nat → Int32) (c : Int) : Int := ceS L xs 0 / ((2 ^ (3 * c).toNat : Nat) : Int) % 8 % 6
def chS (L : Nat) (xs : Nat → Int32) (c : Int) : Int := if ceS L xs 13 / ((2 ^ (2 * c).toNat : Nat) : Int) % 4 = 3 then 1 else 0
def lwS (L : Nat) (xs : Nat → Int32) : Prop := ceS L xs 0 / 262144 % 2 = 1
def gwS (L : Nat) (xs : Nat → Int32) : Int := if ceS L xs 0 / 524288 % 2 = 0 then 90 else 30 + ceS L xs 1 / 8 % 60
def nvS (L : Nat) (xs : Nat → Int32) (c : Int) : Int := ceS L xs (2 + c % 11) * (1 + c / 11) + c * 37
def nuS (L : Nat) (xs : Nat → Int32) (c w : Int) : Int := if w = 0 then nvS L xs c / 4 % 65536 % 10 else if w = 1 then (if nvS L xs c / 32 % 4 = 0 then 20 else nvS L xs c / 64 % 65536 % 100) else if w = 2 then 99 - nvS L xs c / 512 % 65536 % 30 else if w = 3 then (if nvS L xs c / 4096 % 8 = 7 then 1 else 0) else nvS L xs c / 16 % 65536 % 10
theorem ceS_b {L : Nat} {xs : Nat → Int32} {i : Int} (i0 : 0 ≤ i) (i1 : i ≤ 300) : 0 ≤ ceS L xs i ∧ ceS L xs i < 16777216 := by
  unfold ceS
  by_cases h : i < (L : Int)
  · rw [if_pos h]
    have := Nat.mod_lt (xs i.toNat).toBitVec.toNat (show 0 < 2 ^ 24 by decide)
    omega
  · rw [if_neg h]; omega
theorem nvS_b {L : Nat} {xs : Nat → Int32} {c : Int} (c0 : 0 ≤ c) (c1 : c < 30) : 0 ≤ nvS L xs c ∧ nvS L xs c < 60000000 := by
  unfold nvS
  have h := ceS_b (L := L) (xs := xs) (i := 2 + c % 11) (by omega) (by omega)
  have h2 : c / 11 = 0 ∨ c / 11 = 1 ∨ c / 11 = 2 := by omega
  rcases h2 with e | e | e <;> rw [e] <;> omega
theorem hgS_b {L : Nat} {xs : Nat → Int32} (c : Int) : 0 ≤ hgS L xs c ∧ hgS L xs c ≤ 5 := by unfold hgS; omega
theorem chS_b {L : Nat} {xs : Nat → Int32} (c : Int) : 0 ≤ chS L xs c ∧ chS L xs c ≤ 1 := by unfold chS; omega
theorem gwS_b {L : Nat} {xs : Nat → Int32} : 30 ≤ gwS L xs ∧ gwS L xs ≤ 99 := by unfold gwS; omega
theorem nuS_0 {L : Nat} {xs : Nat → Int32} (c : Int) : 0 ≤ nuS L xs c 0 ∧ nuS L xs c 0 ≤ 9 := by
  unfold nuS; rw [if_pos rfl]; omega
theorem nuS_1 {L : Nat} {xs : Nat → Int32} (c : Int) : 0 ≤ nuS L xs c 1 ∧ nuS L xs c 1 ≤ 99 := by
  unfold nuS; rw [if_neg (by omega), if_pos rfl]; omega
theorem nuS_2 {L : Nat} {xs : Nat → Int32} (c : Int) : 0 ≤ nuS L xs c 2 ∧ nuS L xs c 2 ≤ 99 := by
  unfold nuS; rw [if_neg (by omega), if_neg (by omega), if_pos rfl]; omega
theorem nuS_3 {L : Nat} {xs : Nat → Int32} (c : Int) : 0 ≤ nuS L xs c 3 ∧ nuS L xs c 3 ≤ 1 := by
  unfold nuS; rw [if_neg (by omega), if_neg (by omega), if_neg (by omega), if_pos rfl]; omega
theorem nuS_4 {L : Nat} {xs : Nat → Int32} (c : Int) : 0 ≤ nuS L xs c 4 ∧ nuS L xs c 4 ≤ 9 := by
  unfold nuS; rw [if_neg (by omega), if_neg (by omega), if_neg (by omega), if_neg (by omega)]; omega
theorem scP_bl {b L : Nat} {xs : Nat → Int32} {sz : Nat} {av : List Value} : FrameBlind (va_Pc av (fun U => U.heap.size = sz ∧ scP b L xs U)) := by
  intro b U g mk q
  obtain ⟨q0, q1, q2, q3⟩ := q
  exact ⟨q0, q1, q2, va_X.moved (u := U) (U := U.calling g mk b) (Vm.Alike.refl U.vm) q3⟩
theorem scP_to {b L : Nat} {xs : Nat → Int32} {s U : State} {H : Heap} {A : Nat → Prop} {locs : List Loc} (hX : va_X b L xs s s.heap) (hbl : b < s.heap.size) (hbA : ¬ A b) (hS : va_S A s.heap H locs) (hU : U.heap = H) (hW : s.WarmedH U.vm) : U.heap.size = H.size ∧ scP b L xs U :=
  ⟨by rw [hU], by rw [hU]; exact Nat.lt_of_lt_of_le hbl hS.1, va_X.moved (u := s) hW.alike (hX.kept (by rw [hU]; exact hS.2.1 b hbl hbA))⟩
theorem nI_ki {n : Nat} (h : n < 2147483648) : nI n = ki (n : Int) := Int32.toInt_inj.mp (by rw [nI_toInt h, ki_ti (by omega) (by omega)])
theorem ce_and (x : Int32) : x &&& ki 16777215 = ki (((x.toBitVec.toNat % 2 ^ 24 : Nat)) : Int) := by
  have h := Nat.mod_lt x.toBitVec.toNat (show 0 < 2 ^ 24 by decide)
  rw [pk_and x (m := ki 16777215) 24 (by decide), nI_ki (by omega)]
section C1
variable {l : Launch} {b L : Nat} {xs : Nat → Int32}
section LKP
variable {p : Program} {e : Env} {R : Room} {s : State} {m : MethodId} {args : Array Value} {below : List Frame} {meth : Method} {c : Code} {H : Heap} {locs : List Loc} {Q : State → Prop}
variable {cc : ByteArray} {pc : Nat} {ls : Array Slot} {rest : List Value} {A : Nat → Prop}
theorem lk_pure {own : String} {nL : Nat} (hx : p.tables.exec = Jvm.exec) (hb : c.code = cc) (hml : c.maxLocals = nL) (hown : s.vm.findClass own = some m.cls) (hts : ∀ w ∈ xTB, w.before args s = true) (hX : va_X b L xs s s.heap) (hbl : b < s.heap.size) (hbA : ¬ A b) (hS : va_S A s.heap H locs) (hA : ∀ q, s.heap.size ≤ q → A q)
    {y : MethodName} {bytes : ByteArray} {mxL index n fr lc cells slots : Nat} {ret : Option FieldType} (hL : xML own index y bytes mxL ret n) (hsta : Cond.static y ∈ xTB) {As st : List Value} {v : Int32}
    (hMet : Met l y (Cond.code y bytes mxL ret :: xTB) ({ frames := fr, cells := 0, slots := 0, locals := lc } : Room) (va_Pc As (fun U => U.heap.size = H.size ∧ scP b L xs U)) (va_Qi (S := Unit) (fun r _ => r = v) (fun _ _ => True) (va_A [] H.size)) 0 0 (va_A [] H.size)) (hR : fr + 1 ≤ R.frames ∧ 8 + (mxL + 11) + lc ≤ R.locals) (hcs : cells ≤ R.cells ∧ slots ≤ R.slots) (hn : As.length = n) (hls : ls.size = nL) (hst : st = As.reverse ++ rest) (hrm : (rest.map fun v => v.category).sum ≤ 8) (hd : decode cc pc = .ok (.invokestatic index, 3))
    (kk : ∀ (H1 : Heap) (locs1 : List Loc), (∀ (D : va_G) (cl : List vw_C) (ws : va_W), va_P D cl ws H → va_P D cl ws H1) → va_S A s.heap H1 locs1 → W p l e R s m args below meth c H1 locs1 cells slots Q (F0 m (pc + 3) ls (.int v :: rest))) : W p l e R s m args below meth c H locs cells slots Q (F0 m pc ls st) := by
  obtain ⟨l1, l2, l3, l4⟩ := hL
  have hF : ∀ q, va_A [] H.size q → A q := fun q hq => by
    rcases hq with ⟨k, e, h⟩ | h
    · cases h
    · exact hA q (Nat.le_trans hS.1 h)
  exact va_calli (va_runS (As := As) (rest := rest) ⟨hx, hb, hml, hown, hts⟩ hMet ⟨callB_of n hts (xgood l1) rfl rfl rfl (hts _ l2) (hts _ l3) l4 hR, hts _ hsta⟩ ⟨scP_bl, fun U hU hW => ⟨rfl, scP_to hX hbl hbA hS hU hW⟩⟩ rfl hn hls hst (lv_room hrm) hd hcs) hS (fun q _ h => hF q h) hF (fun r u t H1 locs1 ht hvm hw hB hz1 hk1 hS1 => by
    subst hw
    exact kk H1 locs1 (fun D cl ws hP k q hk => (hP k q hk).kept (hk1 _ (hP k q hk).lt (fun z => by
      rcases z with ⟨k2, e, h⟩ | h
      · cases h
      · exact absurd (hP k q hk).lt (Nat.not_lt.mpr h)))) hS1)
end LKP
set_option maxHeartbeats 1000000 in
set_option maxRecDepth 20000 in
theorem c_L_cell {i : Int} (hL : L ≤ 1000) (i0 : 0 ≤ i) (i1 : i ≤ 300) (sz : Nat) : Met l yL_cell (Cond.code yL_cell cL_cell 2 (some .int) :: xTB) ({ frames := 1, cells := 0, slots := 0, locals := 26 } : Room) (va_Pc [.ref b, .int (ki i)] (fun U => U.heap.size = sz ∧ scP b L xs U)) (va_Qi (S := Unit) (fun r _ => r = ki (ceS L xs i)) (fun _ _ => True) (va_A [] sz)) 0 0 (va_A [] sz) := by
  refine Met.ofW (cc := cL_cell) (maxL := 2) (ret := (some .int)) (by decide) rfl ?_
  intro p e s m args below meth c s₁ B hml hv
  obtain ⟨rfl, hsz, hbl, hX⟩ := hv
  subst hsz
  have hx := B.exec
  have hb := B.bytes
  have hr := B.returns
  have hts : ∀ w ∈ xTB, w.before ([.ref b, .int (ki i)] : List Value).toArray s = true := fun w hw => atoms_spec (ws := Cond.code yL_cell cL_cell 2 (some .int) :: xTB) B.pre w (List.mem_cons_of_mem _ hw)
  have hown : s.vm.findClass RL = some m.cls := findClass_of_methodNamed B.named
  have hlocks := B.notSynchronized
  have hl := lv_entry ([.ref b, .int (ki i)]) (n := 2) (Nat.le_of_ble_eq_true rfl)
  rw [lg_entry_eq]
  generalize (lg_sl ([.ref b, .int (ki i)]) ++ List.replicate (2 - (lg_sl ([.ref b, .int (ki i)])).length) Slot.unset).toArray = ls at hl ⊢
  have hl : lv_has ls 2 [(0, .ref b), (1, .int (ki i))] := hl
  generalize hAe : va_A [] s.heap.size = A
  have hbA : ¬ A b := by
    rw [← hAe]
    rintro (⟨k, e, h⟩ | h)
    · cases h
    · exact absurd h (Nat.not_le.mpr hbl)
  have hA : ∀ q : Nat, s.heap.size ≤ q → A q := fun q h => by rw [← hAe]; exact Or.inr h
  have hS : va_S A s.heap s.heap [] := va_S.rf
  refine lv_iload_n hx hb dL_cell_0 rfl (lv_at hl 1 rfl) ?_
  refine lv_aload_n hx hb dL_cell_1 rfl (lv_at hl 0 rfl) ?_
  refine va_slen hx hb hX hbl hbA hS dL_cell_2 ?_
  rw [show Int32.ofNat L = ki L from (nI_ki (by omega))]
  refine kv_icmp_ge (tgt := 15) hx hb (by omega) (by omega) (by omega) (by omega) dL_cell_3 (by decide) (fun h => ?_) (fun h => ?_)
  · refine lv_iload_n hx hb dL_cell_15 rfl (lv_at hl 1 rfl) ?_
    refine lv_sipush (v := ki 9067) hx hb dL_cell_16 rfl ?_
    refine kv_mul (r := ceS L xs i) hx hb (by unfold ceS; rw [if_neg (by omega)]) dL_cell_19 ?_
    exact W.iret (v := (ki (ceS L xs i))) hx hb hr (fun t ht hW => ⟨⟨_, (), rfl, rfl, trivial⟩, hS.F ht⟩) hS.2.2 dL_cell_20
  · refine lv_aload_n hx hb dL_cell_6 rfl (lv_at hl 0 rfl) ?_
    refine lv_iload_n hx hb dL_cell_7 rfl (lv_at hl 1 rfl) ?_
    refine va_sld hx hb hX hbl hbA hS (vin (by omega) i0 (by omega)) dL_cell_8 ?_
    rw [kcl i0 (by omega)]
    refine lv_ldc (v := ki 16777215) hx hb hown (hts _ (xw_mem 796 (by decide +kernel) rfl)) dL_cell_9 ?_
    refine lv_iand hx hb dL_cell_11 ?_
    rw [ce_and, show (((xs i.toNat).toBitVec.toNat % 2 ^ 24 : Nat) : Int) = ceS L xs i by unfold ceS; rw [if_pos (by omega)]]
    refine lv_goto (tgt := 20) hx hb dL_cell_12 (by decide) ?_
    exact W.iret (v := (ki (ceS L xs i))) hx hb hr (fun t ht hW => ⟨⟨_, (), rfl, rfl, trivial⟩, hS.F ht⟩) hS.2.2 dL_cell_20
theorem dv_b {x : Int} (x0 : 0 ≤ x) (k : Nat) : 0 ≤ x / ((2 ^ k : Nat) : Int) ∧ x / ((2 ^ k : Nat) : Int) ≤ x := ⟨Int.ediv_nonneg x0 (Int.natCast_nonneg _), Int.ediv_le_self _ x0⟩
set_option maxHeartbeats 1000000 in
set_option maxRecDepth 20000 in
theorem c_L_high {i : Int} (hL : L ≤ 1000) (i0 : 0 ≤ i) (i1 : i < 6) (sz : Nat) : Met l yL_high (Cond.code yL_high cL_high 2 (some .int) :: xTB) ({ frames := 2, cells := 0, slots := 0, locals := 60 } : Room) (va_Pc [.ref b, .int (ki i)] (fun U => U.heap.size = sz ∧ scP b L xs U)) (va_Qi (S := Unit) (fun r _ => r = ki (hgS L xs i)) (fun _ _ => True) (va_A [] sz)) 0 0 (va_A [] sz) := by
  refine Met.ofW (cc := cL_high) (maxL := 2) (ret := (some .int)) (by decide) rfl ?_
  intro p e s m args below meth c s₁ B hml hv
  obtain ⟨rfl, hsz, hbl, hX⟩ := hv
  subst hsz
  have hx := B.exec
  have hb := B.bytes
  have hr := B.returns
  have hts : ∀ w ∈ xTB, w.before ([.ref b, .int (ki i)] : List Value).toArray s = true := fun w hw => atoms_spec (ws := Cond.code yL_high cL_high 2 (some .int) :: xTB) B.pre w (List.mem_cons_of_mem _ hw)
  have hown : s.vm.findClass RL = some m.cls := findClass_of_methodNamed B.named
  have hlocks := B.notSynchronized
  have hl := lv_entry ([.ref b, .int (ki i)]) (n := 2) (Nat.le_of_ble_eq_true rfl)
  rw [lg_entry_eq]
  generalize (lg_sl ([.ref b, .int (ki i)]) ++ List.replicate (2 - (lg_sl ([.ref b, .int (ki i)])).length) Slot.unset).toArray = ls at hl ⊢
  have hl : lv_has ls 2 [(0, .ref b), (1, .int (ki i))] := hl
  generalize hAe : va_A [] s.heap.size = A
  have hbA : ¬ A b := by
    rw [← hAe]
    rintro (⟨k, e, h⟩ | h)
    · cases h
    · exact absurd h (Nat.not_le.mpr hbl)
  have hA : ∀ q : Nat, s.heap.size ≤ q → A q := fun q h => by rw [← hAe]; exact Or.inr h
  have hS : va_S A s.heap s.heap [] := va_S.rf
  refine lv_aload_n hx hb dL_high_0 rfl (lv_at hl 0 rfl) ?_
  refine lv_iconst (v := ki 0) hx hb dL_high_1 rfl ?_
  refine lk_pure hx hb hml hown hts hX hbl hbA hS hA (⟨xw_mem 795 (by decide +kernel) rfl, xw_mem 29 (by decide +kernel) rfl, xw_mem 800 (by decide +kernel) rfl, by decide +kernel⟩ : xML RL 17 yL_cell cL_cell 2 (some .int) 2) (xw_mem 794 (by decide +kernel) rfl) (As := [.ref b, .int (ki 0)]) (rest := []) (c_L_cell (i := 0) hL (by omega) (by omega) _) ⟨(Nat.le_of_ble_eq_true rfl), (Nat.le_of_ble_eq_true rfl)⟩ ⟨Nat.zero_le _, Nat.zero_le _⟩ rfl hl.1 rfl (Nat.le_of_ble_eq_true rfl) dL_high_2 (fun H locs hP hS => ?_)
  refine lv_iconst (v := ki 3) hx hb dL_high_5 rfl ?_
  refine lv_iload_n hx hb dL_high_6 rfl (lv_at hl 1 rfl) ?_
  refine kv_mul (r := 3 * i) hx hb rfl dL_high_7 ?_
  have hc := ceS_b (L := L) (xs := xs) (i := 0) (by omega) (by omega)
  have hdv := dv_b hc.1 (3 * i).toNat
  refine kv_shr (r := (ceS L xs 0) / ((2 ^ ((3 * i).toNat) : Nat) : Int)) hx hb ((3 * i).toNat) (by omega) (by omega) (by omega) (by omega) rfl dL_high_8 ?_
  refine lv_bipush (v := ki 7) hx hb dL_high_9 rfl ?_
  refine kv_and (r := ((ceS L xs 0) / ((2 ^ ((3 * i).toNat) : Nat) : Int)) % 8) hx hb 3 rfl (by omega) (by omega) (by omega) rfl dL_high_11 ?_
  refine lv_bipush (v := ki 6) hx hb dL_high_12 rfl ?_
  refine kv_rem (r := hgS L xs i) hx hb (by omega) (by omega) (by omega) (by omega) rfl dL_high_14 ?_
  exact W.iret (v := (ki (hgS L xs i))) hx hb hr (fun t ht hW => ⟨⟨_, (), rfl, rfl, trivial⟩, hS.F ht⟩) hS.2.2 dL_high_15
set_option maxHeartbeats 1000000 in
set_option maxRecDepth 20000 in
theorem c_L_hasLaw [Decidable (lwS L xs)] (hL : L ≤ 1000) (sz : Nat) : Met l yL_hasLaw (Cond.code yL_hasLaw cL_hasLaw 1 (some .boolean) :: xTB) ({ frames := 2, cells := 0, slots := 0, locals := 60 } : Room) (va_Pc [.ref b] (fun U => U.heap.size = sz ∧ scP b L xs U)) (va_Qi (S := Unit) (fun r _ => r = ki (bi (lwS L xs))) (fun _ _ => True) (va_A [] sz)) 0 0 (va_A [] sz) := by
  refine Met.ofW (cc := cL_hasLaw) (maxL := 1) (ret := (some .boolean)) (by decide) rfl ?_
  intro p e s m args below meth c s₁ B hml hv
  obtain ⟨rfl, hsz, hbl, hX⟩ := hv
  subst hsz
  have hx := B.exec
  have hb := B.bytes
  have hr := B.returns
  have hts : ∀ w ∈ xTB, w.before ([.ref b] : List Value).toArray s = true := fun w hw => atoms_spec (ws := Cond.code yL_hasLaw cL_hasLaw 1 (some .boolean) :: xTB) B.pre w (List.mem_cons_of_mem _ hw)
  have hown : s.vm.findClass RL = some m.cls := findClass_of_methodNamed B.named
  have hlocks := B.notSynchronized
  have hl := lv_entry ([.ref b]) (n := 1) (Nat.le_of_ble_eq_true rfl)
  rw [lg_entry_eq]
  generalize (lg_sl ([.ref b]) ++ List.replicate (1 - (lg_sl ([.ref b])).length) Slot.unset).toArray = ls at hl ⊢
  have hl : lv_has ls 1 [(0, .ref b)] := hl
  generalize hAe : va_A [] s.heap.size = A
  have hbA : ¬ A b := by
    rw [← hAe]
    rintro (⟨k, e, h⟩ | h)
    · cases h
    · exact absurd h (Nat.not_le.mpr hbl)
  have hA : ∀ q : Nat, s.heap.size ≤ q → A q := fun q h => by rw [← hAe]; exact Or.inr h
  have hS : va_S A s.heap s.heap [] := va_S.rf
  refine lv_aload_n hx hb dL_hasLaw_0 rfl (lv_at hl 0 rfl) ?_
  refine lv_iconst (v := ki 0) hx hb dL_hasLaw_1 rfl ?_
  refine lk_pure hx hb hml hown hts hX hbl hbA hS hA (⟨xw_mem 795 (by decide +kernel) rfl, xw_mem 29 (by decide +kernel) rfl, xw_mem 800 (by decide +kernel) rfl, by decide +kernel⟩ : xML RL 17 yL_cell cL_cell 2 (some .int) 2) (xw_mem 794 (by decide +kernel) rfl) (As := [.ref b, .int (ki 0)]) (rest := []) (c_L_cell (i := 0) hL (by omega) (by omega) _) ⟨(Nat.le_of_ble_eq_true rfl), (Nat.le_of_ble_eq_true rfl)⟩ ⟨Nat.zero_le _, Nat.zero_le _⟩ rfl hl.1 rfl (Nat.le_of_ble_eq_true rfl) dL_hasLaw_2 (fun H locs hP hS => ?_)
  refine lv_bipush (v := ki 18) hx hb dL_hasLaw_5 rfl ?_
  have hc := ceS_b (L := L) (xs := xs) (i := 0) (by omega) (by omega)
  refine kv_shr (r := (ceS L xs 0) / 262144) hx hb 18 rfl (by omega) (by omega) (by omega) rfl dL_hasLaw_7 ?_
  refine lv_iconst (v := ki 1) hx hb dL_hasLaw_8 rfl ?_
  refine kv_and (r := ((ceS L xs 0) / 262144) % 2) hx hb 1 rfl (by omega) (by omega) (by omega) rfl dL_hasLaw_9 ?_
  refine lv_iconst (v := ki 1) hx hb dL_hasLaw_10 rfl ?_
  refine kv_icmp_ne (tgt := 18) hx hb (by omega) (by omega) (by omega) (by omega) dL_hasLaw_11 (by decide) (fun h => ?_) (fun h => ?_)
  · refine lv_iconst (v := ki 0) hx hb dL_hasLaw_18 rfl ?_
    exact W.zret (v := (ki 0)) hx hb hr (x_nz (Or.inl rfl)) (fun t ht hW => ⟨⟨_, (), rfl, congrArg ki (by unfold lwS; simp [bi, h]), trivial⟩, hS.F ht⟩) hS.2.2 dL_hasLaw_19
  · refine lv_iconst (v := ki 1) hx hb dL_hasLaw_14 rfl ?_
    refine lv_goto (tgt := 19) hx hb dL_hasLaw_15 (by decide) ?_
    exact W.zret (v := (ki 1)) hx hb hr (x_nz (Or.inr rfl)) (fun t ht hW => ⟨⟨_, (), rfl, congrArg ki (by unfold lwS; simp [bi, h]), trivial⟩, hS.F ht⟩) hS.2.2 dL_hasLaw_19
set_option maxHeartbeats 1000000 in
set_option maxRecDepth 20000 in
theorem c_L_glows (hL : L ≤ 1000) (sz : Nat) : Met l yL_glows (Cond.code yL_glows cL_glows 1 (some .int) :: xTB) ({ frames := 2, cells := 0, slots := 0, locals := 60 } : Room) (va_Pc [.ref b] (fun U => U.heap.size = sz ∧ scP b L xs U)) (va_Qi (S := Unit) (fun r _ => r = ki (gwS L xs)) (fun _ _ => True) (va_A [] sz)) 0 0 (va_A [] sz) := by
  refine Met.ofW (cc := cL_glows) (maxL := 1) (ret := (some .int)) (by decide) rfl ?_
  intro p e s m args below meth c s₁ B hml hv
  obtain ⟨rfl, hsz, hbl, hX⟩ := hv
  subst hsz
  have hx := B.exec
  have hb := B.bytes
  have hr := B.returns
  have hts : ∀ w ∈ xTB, w.before ([.ref b] : List Value).toArray s = true := fun w hw => atoms_spec (ws := Cond.code yL_glows cL_glows 1 (some .int) :: xTB) B.pre w (List.mem_cons_of_mem _ hw)
  have hown : s.vm.findClass RL = some m.cls := findClass_of_methodNamed B.named
  have hlocks := B.notSynchronized
  have hl := lv_entry ([.ref b]) (n := 1) (Nat.le_of_ble_eq_true rfl)
  rw [lg_entry_eq]
  generalize (lg_sl ([.ref b]) ++ List.replicate (1 - (lg_sl ([.ref b])).length) Slot.unset).toArray = ls at hl ⊢
  have hl : lv_has ls 1 [(0, .ref b)] := hl
  generalize hAe : va_A [] s.heap.size = A
  have hbA : ¬ A b := by
    rw [← hAe]
    rintro (⟨k, e, h⟩ | h)
    · cases h
    · exact absurd h (Nat.not_le.mpr hbl)
  have hA : ∀ q : Nat, s.heap.size ≤ q → A q := fun q h => by rw [← hAe]; exact Or.inr h
  have hS : va_S A s.heap s.heap [] := va_S.rf
  refine lv_aload_n hx hb dL_glows_0 rfl (lv_at hl 0 rfl) ?_
  refine lv_iconst (v := ki 0) hx hb dL_glows_1 rfl ?_
  refine lk_pure hx hb hml hown hts hX hbl hbA hS hA (⟨xw_mem 795 (by decide +kernel) rfl, xw_mem 29 (by decide +kernel) rfl, xw_mem 800 (by decide +kernel) rfl, by decide +kernel⟩ : xML RL 17 yL_cell cL_cell 2 (some .int) 2) (xw_mem 794 (by decide +kernel) rfl) (As := [.ref b, .int (ki 0)]) (rest := []) (c_L_cell (i := 0) hL (by omega) (by omega) _) ⟨(Nat.le_of_ble_eq_true rfl), (Nat.le_of_ble_eq_true rfl)⟩ ⟨Nat.zero_le _, Nat.zero_le _⟩ rfl hl.1 rfl (Nat.le_of_ble_eq_true rfl) dL_glows_2 (fun H locs hP hS => ?_)
  refine lv_bipush (v := ki 19) hx hb dL_glows_5 rfl ?_
  have hc := ceS_b (L := L) (xs := xs) (i := 0) (by omega) (by omega)
  refine kv_shr (r := (ceS L xs 0) / 524288) hx hb 19 rfl (by omega) (by omega) (by omega) rfl dL_glows_7 ?_
  refine lv_iconst (v := ki 1) hx hb dL_glows_8 rfl ?_
  refine kv_and (r := ((ceS L xs 0) / 524288) % 2) hx hb 1 rfl (by omega) (by omega) (by omega) rfl dL_glows_9 ?_
  refine kv_if_ne (tgt := 18) hx hb (by omega) (by omega) dL_glows_10 (by decide) (fun h => ?_) (fun h => ?_)
  · refine lv_bipush (v := ki 30) hx hb dL_glows_18 rfl ?_
    refine lv_aload_n hx hb dL_glows_20 rfl (lv_at hl 0 rfl) ?_
    refine lv_iconst (v := ki 1) hx hb dL_glows_21 rfl ?_
    refine lk_pure hx hb hml hown hts hX hbl hbA hS hA (⟨xw_mem 795 (by decide +kernel) rfl, xw_mem 29 (by decide +kernel) rfl, xw_mem 800 (by decide +kernel) rfl, by decide +kernel⟩ : xML RL 17 yL_cell cL_cell 2 (some .int) 2) (xw_mem 794 (by decide +kernel) rfl) (As := [.ref b, .int (ki 1)]) (rest := [.int (ki 30)]) (c_L_cell (i := 1) hL (by omega) (by omega) _) ⟨(Nat.le_of_ble_eq_true rfl), (Nat.le_of_ble_eq_true rfl)⟩ ⟨Nat.zero_le _, Nat.zero_le _⟩ rfl hl.1 rfl (Nat.le_of_ble_eq_true rfl) dL_glows_22 (fun H locs hP hS => ?_)
    refine lv_iconst (v := ki 3) hx hb dL_glows_25 rfl ?_
    have hc1 := ceS_b (L := L) (xs := xs) (i := 1) (by omega) (by omega)
    refine kv_shr (r := (ceS L xs 1) / 8) hx hb 3 rfl (by omega) (by omega) (by omega) rfl dL_glows_26 ?_
    refine lv_bipush (v := ki 60) hx hb dL_glows_27 rfl ?_
    refine kv_rem (r := ((ceS L xs 1) / 8) % 60) hx hb (by omega) (by omega) (by omega) (by omega) rfl dL_glows_29 ?_
    refine kv_add (r := 30 + (((ceS L xs 1) / 8) % 60)) hx hb rfl dL_glows_30 ?_
    exact W.iret (v := (ki (30 + (((ceS L xs 1) / 8) % 60)))) hx hb hr (fun t ht hW => ⟨⟨_, (), rfl, congrArg ki (by unfold gwS; simp [h]), trivial⟩, hS.F ht⟩) hS.2.2 dL_glows_31
  · refine lv_bipush (v := ki 90) hx hb dL_glows_13 rfl ?_
    refine lv_goto (tgt := 31) hx hb dL_glows_15 (by decide) ?_
    exact W.iret (v := (ki 90)) hx hb hr (fun t ht hW => ⟨⟨_, (), rfl, congrArg ki (by unfold gwS; simp [h]), trivial⟩, hS.F ht⟩) hS.2.2 dL_glows_31
set_option maxHeartbeats 1000000 in
set_option maxRecDepth 20000 in
theorem c_L_number {i : Int} {k : Int} (hL : L ≤ 1000) (i0 : 0 ≤ i) (i1 : i < 30) (w0 : 0 ≤ k) (w1 : k ≤ 4) (sz : Nat) : Met l yL_number (Cond.code yL_number cL_number 4 (some .int) :: xTB) ({ frames := 2, cells := 0, slots := 0, locals := 60 } : Room) (va_Pc [.ref b, .int (ki i), .int (ki k)] (fun U => U.heap.size = sz ∧ scP b L xs U)) (va_Qi (S := Unit) (fun r _ => r = ki (nuS L xs i k)) (fun _ _ => True) (va_A [] sz)) 0 0 (va_A [] sz) := by
  refine Met.ofW (cc := cL_number) (maxL := 4) (ret := (some .int)) (by decide) rfl ?_
  intro p e s m args below meth c s₁ B hml hv
  obtain ⟨rfl, hsz, hbl, hX⟩ := hv
  subst hsz
  have hx := B.exec
  have hb := B.bytes
  have hr := B.returns
  have hts : ∀ w ∈ xTB, w.before ([.ref b, .int (ki i), .int (ki k)] : List Value).toArray s = true := fun w hw => atoms_spec (ws := Cond.code yL_number cL_number 4 (some .int) :: xTB) B.pre w (List.mem_cons_of_mem _ hw)
  have hown : s.vm.findClass RL = some m.cls := findClass_of_methodNamed B.named
  have hlocks := B.notSynchronized
  have hl := lv_entry ([.ref b, .int (ki i), .int (ki k)]) (n := 4) (Nat.le_of_ble_eq_true rfl)
  rw [lg_entry_eq]
  generalize (lg_sl ([.ref b, .int (ki i), .int (ki k)]) ++ List.replicate (4 - (lg_sl ([.ref b, .int (ki i), .int (ki k)])).length) Slot.unset).toArray = ls at hl ⊢
  have hl : lv_has ls 4 [(0, .ref b), (1, .int (ki i)), (2, .int (ki k))] := hl
  generalize hAe : va_A [] s.heap.size = A
  have hbA : ¬ A b := by
    rw [← hAe]
    rintro (⟨k, e, h⟩ | h)
    · cases h
    · exact absurd h (Nat.not_le.mpr hbl)
  have hA : ∀ q : Nat, s.heap.size ≤ q → A q := fun q h => by rw [← hAe]; exact Or.inr h
  have hS : va_S A s.heap s.heap [] := va_S.rf
  refine lv_aload_n hx hb dL_number_0 rfl (lv_at hl 0 rfl) ?_
  refine lv_iconst (v := ki 2) hx hb dL_number_1 rfl ?_
  refine lv_iload_n hx hb dL_number_2 rfl (lv_at hl 1 rfl) ?_
  refine lv_bipush (v := ki 11) hx hb dL_number_3 rfl ?_
  refine kv_rem (r := i % 11) hx hb (by omega) (by omega) (by omega) (by omega) rfl dL_number_5 ?_
  refine kv_add (r := 2 + (i % 11)) hx hb rfl dL_number_6 ?_
  refine lk_pure hx hb hml hown hts hX hbl hbA hS hA (⟨xw_mem 795 (by decide +kernel) rfl, xw_mem 29 (by decide +kernel) rfl, xw_mem 800 (by decide +kernel) rfl, by decide +kernel⟩ : xML RL 17 yL_cell cL_cell 2 (some .int) 2) (xw_mem 794 (by decide +kernel) rfl) (As := [.ref b, .int (ki (2 + (i % 11)))]) (rest := []) (c_L_cell (i := 2 + (i % 11)) hL (by omega) (by omega) _) ⟨(Nat.le_of_ble_eq_true rfl), (Nat.le_of_ble_eq_true rfl)⟩ ⟨Nat.zero_le _, Nat.zero_le _⟩ rfl hl.1 rfl (Nat.le_of_ble_eq_true rfl) dL_number_7 (fun H locs hP hS => ?_)
  refine lv_iconst (v := ki 1) hx hb dL_number_10 rfl ?_
  refine lv_iload_n hx hb dL_number_11 rfl (lv_at hl 1 rfl) ?_
  have hc := ceS_b (L := L) (xs := xs) (i := 2 + i % 11) (by omega) (by omega)
  refine lv_bipush (v := ki 11) hx hb dL_number_12 rfl ?_
  refine kv_div (r := i / 11) hx hb (by omega) (by omega) (by omega) (by omega) rfl dL_number_14 ?_
  refine kv_add (r := 1 + (i / 11)) hx hb rfl dL_number_15 ?_
  have hm : 0 ≤ ceS L xs (2 + i % 11) * (1 + i / 11) ∧ ceS L xs (2 + i % 11) * (1 + i / 11) < 60000000 := by
    have h2 : i / 11 = 0 ∨ i / 11 = 1 ∨ i / 11 = 2 := by omega
    rcases h2 with e | e | e <;> rw [e] <;> omega
  refine kv_mul (r := (ceS L xs (2 + i % 11)) * (1 + (i / 11))) hx hb rfl dL_number_16 ?_
  refine lv_iload_n hx hb dL_number_17 rfl (lv_at hl 1 rfl) ?_
  refine lv_bipush (v := ki 37) hx hb dL_number_18 rfl ?_
  refine kv_mul (r := i * 37) hx hb rfl dL_number_20 ?_
  refine kv_add (r := nvS L xs i) hx hb rfl dL_number_21 ?_
  have hv := nvS_b (L := L) (xs := xs) i0 i1
  refine lv_istore_n (lv' := [(3, .int (ki (nvS L xs i))), (0, .ref b), (1, .int (ki i)), (2, .int (ki k))]) hx hb dL_number_22 rfl hl (by decide) rfl (fun ls hl => ?_)
  refine lv_iload_n hx hb dL_number_23 rfl (lv_at hl 3 rfl) ?_
  refine kv_if_ne (tgt := 39) hx hb (by omega) (by omega) dL_number_24 (by decide) (fun hw0 => ?_) (fun hw0 => ?_)
  · refine lv_iload_n hx hb dL_number_39 rfl (lv_at hl 3 rfl) ?_
    refine lv_iconst (v := ki 1) hx hb dL_number_40 rfl ?_
    refine kv_icmp_ne (tgt := 70) hx hb (by omega) (by omega) (by omega) (by omega) dL_number_41 (by decide) (fun hw1 => ?_) (fun hw1 => ?_)
    · refine lv_iload_n hx hb dL_number_70 rfl (lv_at hl 3 rfl) ?_
      refine lv_iconst (v := ki 2) hx hb dL_number_71 rfl ?_
      refine kv_icmp_ne (tgt := 91) hx hb (by omega) (by omega) (by omega) (by omega) dL_number_72 (by decide) (fun hw2 => ?_) (fun hw2 => ?_)
      · refine lv_iload_n hx hb dL_number_91 rfl (lv_at hl 3 rfl) ?_
        refine lv_iconst (v := ki 3) hx hb dL_number_92 rfl ?_
        refine kv_icmp_ne (tgt := 116) hx hb (by omega) (by omega) (by omega) (by omega) dL_number_93 (by decide) (fun hw3 => ?_) (fun hw3 => ?_)
        · refine lv_iload_n hx hb dL_number_116 rfl (lv_at hl 0 rfl) ?_
          refine lv_iconst (v := ki 4) hx hb dL_number_117 rfl ?_
          refine kv_shr (r := (nvS L xs i) / 16) hx hb 4 rfl (by omega) (by omega) (by omega) rfl dL_number_118 ?_
          refine lv_ldc (v := ki 65535) hx hb hown (hts _ (xw_mem 801 (by decide +kernel) rfl)) dL_number_119 ?_
          refine kv_and (r := ((nvS L xs i) / 16) % 65536) hx hb 16 rfl (by omega) (by omega) (by omega) rfl dL_number_121 ?_
          refine lv_bipush (v := ki 10) hx hb dL_number_122 rfl ?_
          refine kv_rem (r := (((nvS L xs i) / 16) % 65536) % 10) hx hb (by omega) (by omega) (by omega) (by omega) rfl dL_number_124 ?_
          exact W.iret (v := (ki ((((nvS L xs i) / 16) % 65536) % 10))) hx hb hr (fun t ht hW => ⟨⟨_, (), rfl, congrArg ki (by unfold nuS; repeat first | rw [if_pos (by omega)] | rw [if_neg (by omega)]), trivial⟩, hS.F ht⟩) hS.2.2 dL_number_125
        · refine lv_iload_n hx hb dL_number_96 rfl (lv_at hl 0 rfl) ?_
          refine lv_bipush (v := ki 12) hx hb dL_number_97 rfl ?_
          refine kv_shr (r := (nvS L xs i) / 4096) hx hb 12 rfl (by omega) (by omega) (by omega) rfl dL_number_99 ?_
          refine lv_bipush (v := ki 7) hx hb dL_number_100 rfl ?_
          refine kv_and (r := ((nvS L xs i) / 4096) % 8) hx hb 3 rfl (by omega) (by omega) (by omega) rfl dL_number_102 ?_
          refine lv_bipush (v := ki 7) hx hb dL_number_103 rfl ?_
          refine kv_icmp_ne (tgt := 112) hx hb (by omega) (by omega) (by omega) (by omega) dL_number_105 (by decide) (fun hz => ?_) (fun hz => ?_)
          · refine lv_iconst (v := ki 0) hx hb dL_number_112 rfl ?_
            refine lv_goto (tgt := 125) hx hb dL_number_113 (by decide) ?_
            exact W.iret (v := (ki 0)) hx hb hr (fun t ht hW => ⟨⟨_, (), rfl, congrArg ki (by unfold nuS; repeat first | rw [if_pos (by omega)] | rw [if_neg (by omega)]), trivial⟩, hS.F ht⟩) hS.2.2 dL_number_125
          · refine lv_iconst (v := ki 1) hx hb dL_number_108 rfl ?_
            refine lv_goto (tgt := 125) hx hb dL_number_109 (by decide) ?_
            exact W.iret (v := (ki 1)) hx hb hr (fun t ht hW => ⟨⟨_, (), rfl, congrArg ki (by unfold nuS; repeat first | rw [if_pos (by omega)] | rw [if_neg (by omega)]), trivial⟩, hS.F ht⟩) hS.2.2 dL_number_125
      · refine lv_bipush (v := ki 99) hx hb dL_number_75 rfl ?_
        refine lv_iload_n hx hb dL_number_77 rfl (lv_at hl 0 rfl) ?_
        refine lv_bipush (v := ki 9) hx hb dL_number_78 rfl ?_
        refine kv_shr (r := (nvS L xs i) / 512) hx hb 9 rfl (by omega) (by omega) (by omega) rfl dL_number_80 ?_
        refine lv_ldc (v := ki 65535) hx hb hown (hts _ (xw_mem 801 (by decide +kernel) rfl)) dL_number_81 ?_
        refine kv_and (r := ((nvS L xs i) / 512) % 65536) hx hb 16 rfl (by omega) (by omega) (by omega) rfl dL_number_83 ?_
        refine lv_bipush (v := ki 30) hx hb dL_number_84 rfl ?_
        refine kv_rem (r := (((nvS L xs i) / 512) % 65536) % 30) hx hb (by omega) (by omega) (by omega) (by omega) rfl dL_number_86 ?_
        refine kv_sub (r := 99 - ((((nvS L xs i) / 512) % 65536) % 30)) hx hb rfl dL_number_87 ?_
        refine lv_goto (tgt := 125) hx hb dL_number_88 (by decide) ?_
        exact W.iret (v := (ki (99 - ((((nvS L xs i) / 512) % 65536) % 30)))) hx hb hr (fun t ht hW => ⟨⟨_, (), rfl, congrArg ki (by unfold nuS; repeat first | rw [if_pos (by omega)] | rw [if_neg (by omega)]), trivial⟩, hS.F ht⟩) hS.2.2 dL_number_125
    · refine lv_iload_n hx hb dL_number_44 rfl (lv_at hl 0 rfl) ?_
      refine lv_iconst (v := ki 5) hx hb dL_number_45 rfl ?_
      refine kv_shr (r := (nvS L xs i) / 32) hx hb 5 rfl (by omega) (by omega) (by omega) rfl dL_number_46 ?_
      refine lv_iconst (v := ki 3) hx hb dL_number_47 rfl ?_
      refine kv_and (r := ((nvS L xs i) / 32) % 4) hx hb 2 rfl (by omega) (by omega) (by omega) rfl dL_number_48 ?_
      refine kv_if_ne (tgt := 57) hx hb (by omega) (by omega) dL_number_49 (by decide) (fun hz => ?_) (fun hz => ?_)
      · refine lv_iload_n hx hb dL_number_57 rfl (lv_at hl 0 rfl) ?_
        refine lv_bipush (v := ki 6) hx hb dL_number_58 rfl ?_
        refine kv_shr (r := (nvS L xs i) / 64) hx hb 6 rfl (by omega) (by omega) (by omega) rfl dL_number_60 ?_
        refine lv_ldc (v := ki 65535) hx hb hown (hts _ (xw_mem 801 (by decide +kernel) rfl)) dL_number_61 ?_
        refine kv_and (r := ((nvS L xs i) / 64) % 65536) hx hb 16 rfl (by omega) (by omega) (by omega) rfl dL_number_63 ?_
        refine lv_bipush (v := ki 100) hx hb dL_number_64 rfl ?_
        refine kv_rem (r := (((nvS L xs i) / 64) % 65536) % 100) hx hb (by omega) (by omega) (by omega) (by omega) rfl dL_number_66 ?_
        refine lv_goto (tgt := 125) hx hb dL_number_67 (by decide) ?_
        exact W.iret (v := (ki ((((nvS L xs i) / 64) % 65536) % 100))) hx hb hr (fun t ht hW => ⟨⟨_, (), rfl, congrArg ki (by unfold nuS; repeat first | rw [if_pos (by omega)] | rw [if_neg (by omega)]), trivial⟩, hS.F ht⟩) hS.2.2 dL_number_125
      · refine lv_bipush (v := ki 20) hx hb dL_number_52 rfl ?_
        refine lv_goto (tgt := 125) hx hb dL_number_54 (by decide) ?_
        exact W.iret (v := (ki 20)) hx hb hr (fun t ht hW => ⟨⟨_, (), rfl, congrArg ki (by unfold nuS; repeat first | rw [if_pos (by omega)] | rw [if_neg (by omega)]), trivial⟩, hS.F ht⟩) hS.2.2 dL_number_125
  · refine lv_iload_n hx hb dL_number_27 rfl (lv_at hl 0 rfl) ?_
    refine lv_iconst (v := ki 2) hx hb dL_number_28 rfl ?_
    refine kv_shr (r := (nvS L xs i) / 4) hx hb 2 rfl (by omega) (by omega) (by omega) rfl dL_number_29 ?_
    refine lv_ldc (v := ki 65535) hx hb hown (hts _ (xw_mem 801 (by decide +kernel) rfl)) dL_number_30 ?_
    refine kv_and (r := ((nvS L xs i) / 4) % 65536) hx hb 16 rfl (by omega) (by omega) (by omega) rfl dL_number_32 ?_
    refine lv_bipush (v := ki 10) hx hb dL_number_33 rfl ?_
    refine kv_rem (r := (((nvS L xs i) / 4) % 65536) % 10) hx hb (by omega) (by omega) (by omega) (by omega) rfl dL_number_35 ?_
    refine lv_goto (tgt := 125) hx hb dL_number_36 (by decide) ?_
    exact W.iret (v := (ki ((((nvS L xs i) / 4) % 65536) % 10))) hx hb hr (fun t ht hW => ⟨⟨_, (), rfl, congrArg ki (by unfold nuS; repeat first | rw [if_pos (by omega)] | rw [if_neg (by omega)]), trivial⟩, hS.F ht⟩) hS.2.2 dL_number_125
set_option maxHeartbeats 1000000 in
set_option maxRecDepth 20000 in
theorem c_L_chimney {i : Int} (hL : L ≤ 1000) (i0 : 0 ≤ i) (i1 : i < 6) (sz : Nat) : Met l yL_chimney (Cond.code yL_chimney cL_chimney 2 (some .int) :: xTB) ({ frames := 2, cells := 0, slots := 0, locals := 60 } : Room) (va_Pc [.ref b, .int (ki i)] (fun U => U.heap.size = sz ∧ scP b L xs U)) (va_Qi (S := Unit) (fun r _ => r = ki (chS L xs i)) (fun _ _ => True) (va_A [] sz)) 0 0 (va_A [] sz) := by
  refine Met.ofW (cc := cL_chimney) (maxL := 2) (ret := (some .int)) (by decide) rfl ?_
  intro p e s m args below meth c s₁ B hml hv
  obtain ⟨rfl, hsz, hbl, hX⟩ := hv
  subst hsz
  have hx := B.exec
  have hb := B.bytes
  have hr := B.returns
  have hts : ∀ w ∈ xTB, w.before ([.ref b, .int (ki i)] : List Value).toArray s = true := fun w hw => atoms_spec (ws := Cond.code yL_chimney cL_chimney 2 (some .int) :: xTB) B.pre w (List.mem_cons_of_mem _ hw)
  have hown : s.vm.findClass RL = some m.cls := findClass_of_methodNamed B.named
  have hlocks := B.notSynchronized
  have hl := lv_entry ([.ref b, .int (ki i)]) (n := 2) (Nat.le_of_ble_eq_true rfl)
  rw [lg_entry_eq]
  generalize (lg_sl ([.ref b, .int (ki i)]) ++ List.replicate (2 - (lg_sl ([.ref b, .int (ki i)])).length) Slot.unset).toArray = ls at hl ⊢
  have hl : lv_has ls 2 [(0, .ref b), (1, .int (ki i))] := hl
  generalize hAe : va_A [] s.heap.size = A
  have hbA : ¬ A b := by
    rw [← hAe]
    rintro (⟨k, e, h⟩ | h)
    · cases h
    · exact absurd h (Nat.not_le.mpr hbl)
  have hA : ∀ q : Nat, s.heap.size ≤ q → A q := fun q h => by rw [← hAe]; exact Or.inr h
  have hS : va_S A s.heap s.heap [] := va_S.rf
  refine lv_aload_n hx hb dL_chimney_0 rfl (lv_at hl 0 rfl) ?_
  refine lv_bipush (v := ki 13) hx hb dL_chimney_1 rfl ?_
  refine lk_pure hx hb hml hown hts hX hbl hbA hS hA (⟨xw_mem 795 (by decide +kernel) rfl, xw_mem 29 (by decide +kernel) rfl, xw_mem 800 (by decide +kernel) rfl, by decide +kernel⟩ : xML RL 17 yL_cell cL_cell 2 (some .int) 2) (xw_mem 794 (by decide +kernel) rfl) (As := [.ref b, .int (ki 13)]) (rest := []) (c_L_cell (i := 13) hL (by omega) (by omega) _) ⟨(Nat.le_of_ble_eq_true rfl), (Nat.le_of_ble_eq_true rfl)⟩ ⟨Nat.zero_le _, Nat.zero_le _⟩ rfl hl.1 rfl (Nat.le_of_ble_eq_true rfl) dL_chimney_3 (fun H locs hP hS => ?_)
  refine lv_iconst (v := ki 2) hx hb dL_chimney_6 rfl ?_
  refine lv_iload_n hx hb dL_chimney_7 rfl (lv_at hl 1 rfl) ?_
  refine kv_mul (r := 2 * i) hx hb rfl dL_chimney_8 ?_
  have hc := ceS_b (L := L) (xs := xs) (i := 13) (by omega) (by omega)
  have hdv := dv_b hc.1 (2 * i).toNat
  refine kv_shr (r := (ceS L xs 13) / ((2 ^ ((2 * i).toNat) : Nat) : Int)) hx hb ((2 * i).toNat) (by omega) (by omega) (by omega) (by omega) rfl dL_chimney_9 ?_
  refine lv_iconst (v := ki 3) hx hb dL_chimney_10 rfl ?_
  refine kv_and (r := ((ceS L xs 13) / ((2 ^ ((2 * i).toNat) : Nat) : Int)) % 4) hx hb 2 rfl (by omega) (by omega) (by omega) rfl dL_chimney_11 ?_
  refine lv_iconst (v := ki 3) hx hb dL_chimney_12 rfl ?_
  refine kv_icmp_ne (tgt := 20) hx hb (by omega) (by omega) (by omega) (by omega) dL_chimney_13 (by decide) (fun h => ?_) (fun h => ?_)
  · refine lv_iconst (v := ki 0) hx hb dL_chimney_20 rfl ?_
    exact W.iret (v := (ki 0)) hx hb hr (fun t ht hW => ⟨⟨_, (), rfl, congrArg ki (by unfold chS; first | rw [if_pos h] | rw [if_neg h]), trivial⟩, hS.F ht⟩) hS.2.2 dL_chimney_21
  · refine lv_iconst (v := ki 1) hx hb dL_chimney_16 rfl ?_
    refine lv_goto (tgt := 21) hx hb dL_chimney_17 (by decide) ?_
    exact W.iret (v := (ki 1)) hx hb hr (fun t ht hW => ⟨⟨_, (), rfl, congrArg ki (by unfold chS; first | rw [if_pos h] | rw [if_neg h]), trivial⟩, hS.F ht⟩) hS.2.2 dL_chimney_21
end C1
