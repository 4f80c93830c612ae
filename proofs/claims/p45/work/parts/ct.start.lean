/-! part ct: from the law's entry -/
set_option maxHeartbeats 4000000 in
set_option maxRecDepth 100000 in
theorem whole_start {p : Program} {e : Env} {s : State} {m : MethodId} {below : List Frame} {meth : Method} {c : Code} (l : Launch) (hflags : l.flags = flags0) {b L : Nat} {xs : Nat → Int32} (hL : L ≤ 260) (C0 : lw_At p s m meth c b L xs) : W p l e room_1 s m #[Value.ref b] below meth c s.heap [] 0 0 (lw_Z below #[Value.ref b] s) (entryFrame m ([Value.ref b] : List Value).toArray 21) := by
  obtain ⟨hx, hb, hr, hml, hown, hts, hX, hbl, hlocks, hgv⟩ := id C0
  have hb : c.code = cL_law := hb
  have hown2 : s.vm.findClass RL = some m.cls := hown
  have hts' : ∀ w ∈ xTB, w.before #[Value.ref b] s = true := fun w hw => hts w (List.mem_filter.mp hw).1
  have hA : ∀ q : Nat, s.heap.size ≤ q → (fun q : Nat => s.heap.size ≤ q) q := fun _ h => h
  have hbA : ¬ (fun q : Nat => s.heap.size ≤ q) b := Nat.not_le.mpr hbl
  have hA0 : ∀ a : Nat, a < s.heap.size → ¬ (fun q : Nat => s.heap.size ≤ q) a := fun a h1 h2 => absurd h1 (Nat.not_lt.mpr h2)
  obtain ⟨D, cy, hK⟩ := x_K0 hts' (hts _ xo4) (hts _ xo8) (hts _ xoO)
  obtain ⟨z, hEx⟩ := x_Ex0 (A := fun q : Nat => s.heap.size ≤ q) hts hgv hA0
  obtain ⟨mi, hJN⟩ := x_jN hts hgv
  obtain ⟨zE, zc, ad, hJZ⟩ := x_jZ (A := fun q : Nat => s.heap.size ≤ q) hts hgv hA0
  have hN := x_N11 hts
  have hNs : nS s := ⟨va_Nw.of rfl (hts _ xs1), va_Nw.of rfl (hts _ xs2)⟩
  have hF : nF s := ⟨va_Nw.of rfl (hts _ xf1), va_Nw.of rfl (hts _ xf2), va_Nw.of rfl (hts _ xf3)⟩
  have hAO : va_AOA .int s := va_AOA.of (hts _ xoA)
  have hS : va_S (fun q : Nat => s.heap.size ≤ q) s.heap s.heap [] := va_S.rf
  have hP : va_P D vwCl [] s.heap := fun k q h => by simp at h
  have hD : va_D (fun q : Nat => s.heap.size ≤ q) [] := ⟨fun i j p q h => by simp at h, fun k q h => by simp at h⟩
  have hl := lv_entry ([.ref b]) (n := 21) (Nat.le_of_ble_eq_true rfl)
  rw [lg_entry_eq]
  generalize (lg_sl ([.ref b]) ++ List.replicate (21 - (lg_sl ([.ref b])).length) Slot.unset).toArray = ls at hl ⊢
  have hl : lv_has ls 21 [(0, .ref b)] := hl
  refine va_new (ci := 11) (fs := [.null, .null, .null, .null, .int 0, .null, .null, .null, .null, .null, .null, .null, .null]) (C := RX11) (T := TX11) (N := 13) hx hb hts' xin_X11 tyX11 tyX11_ok hown2 (hts' _ (xw_mem 57 (by decide +kernel) rfl)) (hts' _ (xw_mem 58 (by decide +kernel) rfl)) (hts' _ (xw_mem 30 (by decide +kernel) rfl)) hK hP hD hS hA rfl fsX11 (Nat.le_of_ble_eq_true rfl) (Nat.le_of_ble_eq_true rfl) dL_law_0 (fun p0 H hP hD hS => ?_)
  refine lv_dup hx hb dL_law_3 rfl ?_
  refine x_ctor hx hb hml hown2 hts' (xgood (xw_mem 61 (by decide +kernel) rfl)) (xw_mem 30 (by decide +kernel) rfl) (xw_mem 59 (by decide +kernel) rfl) ⟨by decide, by decide, by decide +kernel⟩ rfl (xw_mem 60 (by decide +kernel) rfl) hP hD hS hA (wc := [(p0, .inr (11, [.null, .null, .null, .null, .int 0, .null, .null, .null, .null, .null, .null, .null, .null]))]) (n := 0) (rest := [.ref p0]) [] (c_X11_init l D cy p0 H.size) xN11_bl (fun U hU hW => ⟨by rw [hU], by rw [hU]; exact xP_last hP, va_K.moved hW.alike (K_sub hK), (xD_last hD).weaken (fun _ _ _ _ => trivial), hN.warm hW⟩) ⟨(Nat.le_of_ble_eq_true rfl), (Nat.le_of_ble_eq_true rfl)⟩ (Nat.le_of_ble_eq_true rfl) (Nat.le_of_ble_eq_true rfl) rfl hl.1 rfl (Nat.le_of_ble_eq_true rfl) dL_law_4 (fun t H locs ht hB hJ hS => ?_)
  obtain ⟨w1, hw1, hP1, hD1⟩ := hB
  rw [ht] at hP1
  obtain ⟨hP, hD⟩ := hJ _ hP1 hD1
  have hP : va_P D vwCl w1 H := hP
  have hD : va_D (fun q : Nat => s.heap.size ≤ q) w1 := hD
  obtain ⟨a, ha0, hP2, hD2⟩ := xX_end hw1 hP hD
  subst ha0
  clear hP hD hP1 hD1 hJ hw1
  obtain ⟨SX, eSX⟩ : ∃ SX, SX = S0X := ⟨_, rfl⟩
  rw [← eSX] at hP2 hD2
  have hI : xI xtb a := xI_of_D hD2
  have hP3 : va_P D vwCl (List.flatten [xW cy xtb a SX]) H := by
    rw [List.flatten_cons, List.flatten_nil, List.append_nil]; exact hP2
  have hD3 : va_D (fun q : Nat => s.heap.size ≤ q) (List.flatten [xW cy xtb a SX]) := by
    rw [List.flatten_cons, List.flatten_nil, List.append_nil]; exact hD2
  refine lv_astore_n (lv' := [(1, .ref (a 0)), (0, .ref b)]) hx hb dL_law_7 rfl hl (by decide) rfl (fun ls hl => ?_)
  have hB0 : BX η0 gn0 SX := by
    rw [eSX]; exact ⟨wf_0, hx_0, law_0, ⟨0, by omega, by omega, i0X_0 (by omega)⟩⟩
  have ht0 : SX.1 2 1 = ki 0 := by
    rw [eSX]; exact i0X_0 (by omega)
  clear eSX
  refine W.widen (k := 10000) (n := 100000) (Nat.le_of_ble_eq_true rfl) (Nat.le_of_ble_eq_true rfl) ?_
  refine law_mid hx hb hml hown2 hts' hK hJN hJZ hX hbl hbA hNs hEx hA hI ⟨(Nat.le_of_ble_eq_true rfl), (Nat.le_of_ble_eq_true rfl), (Nat.le_of_ble_eq_true rfl), (Nat.le_of_ble_eq_true rfl)⟩ (by omega) hF hB0 ht0 hAO ⟨(Nat.le_of_ble_eq_true rfl), (Nat.le_of_ble_eq_true rfl)⟩ (fun k' n' H locs ls hk hn hS => ?_) (lv_sub hl [1, 0] rfl) hP3 hD3 hS
  refine lv_iconst (v := 1) hx hb dL_law_1596 (by decide) ?_
  refine va_forget (fun q hq => hS.2.2 q hq) ?_
  refine W.widen (k := 600000) (n := 7302250) (Nat.le_trans hk (by decide)) (Nat.le_trans hn (by decide)) ?_
  exact lw_ret hx hb hr hlocks dL_law_1597
