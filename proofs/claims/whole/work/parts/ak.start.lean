/-! part ak: what holds at the law's entry -/
theorem x_K0 {args : Array Value} {s : State} (hts : ∀ w ∈ xTB, w.before args s = true) (h4 : (Cond.arrayOver (.object RX4)).before args s = true) (h8 : (Cond.arrayOver (.object RX8)).before args s = true) : ∃ (D : va_G) (cy : Nat → ClassId), va_K D vwCl (xty cy) s := by
  obtain ⟨c0, i0, k0⟩ := u_known (C := RX0) (T := TX0) (N := 5) (n := 5) hts xin_X0 (hts _ (xw_mem 392 (by decide +kernel) rfl))
  obtain ⟨c1, i1, k1⟩ := u_known (C := RX1) (T := TX1) (N := 2) (n := 2) hts xin_X1 (hts _ (xw_mem 353 (by decide +kernel) rfl))
  obtain ⟨c2, i2, k2⟩ := u_known (C := RX2) (T := TX2) (N := 6) (n := 6) hts xin_X2 (hts _ (xw_mem 366 (by decide +kernel) rfl))
  obtain ⟨c3, i3, k3⟩ := u_known (C := RX3) (T := TX3) (N := 6) (n := 6) hts xin_X3 (hts _ (xw_mem 323 (by decide +kernel) rfl))
  obtain ⟨c4, i4, k4⟩ := u_known (C := RX4) (T := TX4) (N := 12) (n := 12) hts xin_X4 (hts _ (xw_mem 198 (by decide +kernel) rfl))
  obtain ⟨c5, i5, k5⟩ := u_known (C := RX5) (T := TX5) (N := 8) (n := 8) hts xin_X5 (hts _ (xw_mem 167 (by decide +kernel) rfl))
  obtain ⟨c6, i6, k6⟩ := u_known (C := RX6) (T := TX6) (N := 7) (n := 7) hts xin_X6 (hts _ (xw_mem 294 (by decide +kernel) rfl))
  obtain ⟨c7, i7, k7⟩ := u_known (C := RX7) (T := TX7) (N := 3) (n := 3) hts xin_X7 (hts _ (xw_mem 277 (by decide +kernel) rfl))
  obtain ⟨c8, i8, k8⟩ := u_known (C := RX8) (T := TX8) (N := 5) (n := 5) hts xin_X8 (hts _ (xw_mem 418 (by decide +kernel) rfl))
  obtain ⟨c9, i9, k9⟩ := u_known (C := RX9) (T := TX9) (N := 10) (n := 10) hts xin_X9 (hts _ (xw_mem 123 (by decide +kernel) rfl))
  obtain ⟨c10, i10, k10⟩ := u_known (C := RX10) (T := TX10) (N := 4) (n := 4) hts xin_X10 (hts _ (xw_mem 256 (by decide +kernel) rfl))
  obtain ⟨c11, i11, k11⟩ := u_known (C := RX11) (T := TX11) (N := 13) (n := 13) hts xin_X11 (hts _ (xw_mem 115 (by decide +kernel) rfl))
  obtain ⟨c12, i12, k12⟩ := u_known (C := RX12) (T := TX12) (N := 61) (n := 61) hts xin_X12 (hts _ (xw_mem 1088 (by decide +kernel) rfl))
  obtain ⟨ai, bi, di, fi, gi, ji⟩ := Cond.arrayClass_spec (hts _ xar_i)
  obtain ⟨ab, bb, db, fb, gb, jb⟩ := Cond.arrayClass_spec (hts _ xar_b)
  obtain ⟨as, bs, ds, fs, gs, js⟩ := Cond.arrayClass_spec (hts _ xar_s)
  obtain ⟨al, bl, dl, fl, gl, jl⟩ := Cond.arrayClass_spec (hts _ xar_l)
  obtain ⟨m4, a4, b4, f4, -, g4, j4, r4⟩ := Cond.arrayOver_spec h4
  obtain ⟨m8, a8, b8, f8, -, g8, j8, r8⟩ := Cond.arrayOver_spec h8
  refine ⟨(fun k => ([c0, c1, c2, c3, c4, c5, c6, c7, c8, c9, c10, c11, c12] : List ClassId).getD k c0, fun k => ([i0, i1, i2, i3, i4, i5, i6, i7, i8, i9, i10, i11, i12] : List (Nat → Nat)).getD k i0), fun k => ([ai, ab, as, al, a4, a8] : List ClassId).getD k ai, fun k q hq => ?_, fun k q hq => ?_⟩
  · match k, hq with
    | 0, hq => cases hq; exact k0
    | 1, hq => cases hq; exact k1
    | 2, hq => cases hq; exact k2
    | 3, hq => cases hq; exact k3
    | 4, hq => cases hq; exact k4
    | 5, hq => cases hq; exact k5
    | 6, hq => cases hq; exact k6
    | 7, hq => cases hq; exact k7
    | 8, hq => cases hq; exact k8
    | 9, hq => cases hq; exact k9
    | 10, hq => cases hq; exact k10
    | 11, hq => cases hq; exact k11
    | 12, hq => cases hq; exact k12
    | k + 13, hq => exact absurd (show k + 13 < 13 from (List.getElem?_eq_some_iff.mp hq).1) (by omega)
  · match k, hq with
    | 0, hq => cases hq; exact ⟨fun n z => ⟨fun k h => (by cases h), bi, gi, di, ji⟩, fi⟩
    | 1, hq => cases hq; exact ⟨fun n z => ⟨fun k h => (by cases h), bb, gb, db, jb⟩, fb⟩
    | 2, hq => cases hq; exact ⟨fun n z => ⟨fun k h => (by cases h), bs, gs, ds, js⟩, fs⟩
    | 3, hq => cases hq; exact ⟨fun n z => ⟨fun k h => (by cases h), bl, gl, dl, jl⟩, fl⟩
    | 4, hq => cases hq; exact ⟨fun n z => ⟨fun k h => (by cases h), b4, g4, m4, j4⟩, b4, m4, g4, j4, f4, r4⟩
    | 5, hq => cases hq; exact ⟨fun n z => ⟨fun k h => (by cases h), b8, g8, m8, j8⟩, b8, m8, g8, j8, f8, r8⟩
    | k + 6, hq => exact absurd (show k + 6 < 6 from (List.getElem?_eq_some_iff.mp hq).1) (by omega)
set_option maxHeartbeats 4000000 in
theorem x_Z_LEAST {args : Array Value} {s : State} {A : Nat → Prop} (hs : ∀ w ∈ flatC (Jvm.Cond.and given_1 narrow_1), w.before args s = true) (hl : (Cond.laysStatic RX11 "LEAST" "[I").before args s = true) (hi : (Cond.initialized RX11).before args s = true) (hA : ∀ a : Nat, a < s.heap.size → ¬ A a) : ∃ t : Nat, xZ1 RX11 "LEAST" t 8 xt_LEAST A s s.heap := by
  obtain ⟨t, h1, h2⟩ := va_Tof (args := args) (s := s) (tm := (.static "HotStack" "LEAST" "[I")) (ty := .int) (N := 8) (f := fun j => .int (xt_LEAST j)) (A := A) (by decide) (hs (Cond.arrayOf (.static "HotStack" "LEAST" "[I") .int) (by decide +kernel)) (va_eqt (hs (Cond.eq (.length (.static "HotStack" "LEAST" "[I")) (.int 8)) (by decide +kernel))) (fun j hj => by
    match j, hj with
    | 0, _ => exact va_eqt (z := 0) (hs (Cond.eq (.elem (.static "HotStack" "LEAST" "[I") (.int 0)) (.int 0)) (by decide +kernel))
    | 1, _ => exact va_eqt (z := 0) (hs (Cond.eq (.elem (.static "HotStack" "LEAST" "[I") (.int 1)) (.int 0)) (by decide +kernel))
    | 2, _ => exact va_eqt (z := 0) (hs (Cond.eq (.elem (.static "HotStack" "LEAST" "[I") (.int 2)) (.int 0)) (by decide +kernel))
    | 3, _ => exact va_eqt (z := 0) (hs (Cond.eq (.elem (.static "HotStack" "LEAST" "[I") (.int 3)) (.int 0)) (by decide +kernel))
    | 4, _ => exact va_eqt (z := 0) (hs (Cond.eq (.elem (.static "HotStack" "LEAST" "[I") (.int 4)) (.int 0)) (by decide +kernel))
    | 5, _ => exact va_eqt (z := 0) (hs (Cond.eq (.elem (.static "HotStack" "LEAST" "[I") (.int 5)) (.int 0)) (by decide +kernel))
    | 6, _ => exact va_eqt (z := 30) (hs (Cond.eq (.elem (.static "HotStack" "LEAST" "[I") (.int 6)) (.int 30)) (by decide +kernel))
    | 7, _ => exact va_eqt (z := 0) (hs (Cond.eq (.elem (.static "HotStack" "LEAST" "[I") (.int 7)) (.int 0)) (by decide +kernel))
    | j + 8, h => exact absurd h (by omega)) hA
  exact ⟨t, va_Zof hl hi h1 hA, h2⟩
set_option maxHeartbeats 4000000 in
theorem x_Z_MOST {args : Array Value} {s : State} {A : Nat → Prop} (hs : ∀ w ∈ flatC (Jvm.Cond.and given_1 narrow_1), w.before args s = true) (hl : (Cond.laysStatic RX11 "MOST" "[I").before args s = true) (hi : (Cond.initialized RX11).before args s = true) (hA : ∀ a : Nat, a < s.heap.size → ¬ A a) : ∃ t : Nat, xZ1 RX11 "MOST" t 8 xt_MOST A s s.heap := by
  obtain ⟨t, h1, h2⟩ := va_Tof (args := args) (s := s) (tm := (.static "HotStack" "MOST" "[I")) (ty := .int) (N := 8) (f := fun j => .int (xt_MOST j)) (A := A) (by decide) (hs (Cond.arrayOf (.static "HotStack" "MOST" "[I") .int) (by decide +kernel)) (va_eqt (hs (Cond.eq (.length (.static "HotStack" "MOST" "[I")) (.int 8)) (by decide +kernel))) (fun j hj => by
    match j, hj with
    | 0, _ => exact va_eqt (z := 9) (hs (Cond.eq (.elem (.static "HotStack" "MOST" "[I") (.int 0)) (.int 9)) (by decide +kernel))
    | 1, _ => exact va_eqt (z := 99) (hs (Cond.eq (.elem (.static "HotStack" "MOST" "[I") (.int 1)) (.int 99)) (by decide +kernel))
    | 2, _ => exact va_eqt (z := 99) (hs (Cond.eq (.elem (.static "HotStack" "MOST" "[I") (.int 2)) (.int 99)) (by decide +kernel))
    | 3, _ => exact va_eqt (z := 1) (hs (Cond.eq (.elem (.static "HotStack" "MOST" "[I") (.int 3)) (.int 1)) (by decide +kernel))
    | 4, _ => exact va_eqt (z := 9) (hs (Cond.eq (.elem (.static "HotStack" "MOST" "[I") (.int 4)) (.int 9)) (by decide +kernel))
    | 5, _ => exact va_eqt (z := 1) (hs (Cond.eq (.elem (.static "HotStack" "MOST" "[I") (.int 5)) (.int 1)) (by decide +kernel))
    | 6, _ => exact va_eqt (z := 99) (hs (Cond.eq (.elem (.static "HotStack" "MOST" "[I") (.int 6)) (.int 99)) (by decide +kernel))
    | 7, _ => exact va_eqt (z := 99) (hs (Cond.eq (.elem (.static "HotStack" "MOST" "[I") (.int 7)) (.int 99)) (by decide +kernel))
    | j + 8, h => exact absurd h (by omega)) hA
  exact ⟨t, va_Zof hl hi h1 hA, h2⟩
set_option maxHeartbeats 4000000 in
theorem x_Z_ABOVE {args : Array Value} {s : State} {A : Nat → Prop} (hs : ∀ w ∈ flatC (Jvm.Cond.and given_1 narrow_1), w.before args s = true) (hl : (Cond.laysStatic RX0 "ABOVE" "[I").before args s = true) (hi : (Cond.initialized RX0).before args s = true) (hA : ∀ a : Nat, a < s.heap.size → ¬ A a) : ∃ t : Nat, xZ1 RX0 "ABOVE" t 8 xt_ABOVE A s s.heap := by
  obtain ⟨t, h1, h2⟩ := va_Tof (args := args) (s := s) (tm := (.static "HotStack$Bodies" "ABOVE" "[I")) (ty := .int) (N := 8) (f := fun j => .int (xt_ABOVE j)) (A := A) (by decide) (hs (Cond.arrayOf (.static "HotStack$Bodies" "ABOVE" "[I") .int) (by decide +kernel)) (va_eqt (hs (Cond.eq (.length (.static "HotStack$Bodies" "ABOVE" "[I")) (.int 8)) (by decide +kernel))) (fun j hj => by
    match j, hj with
    | 0, _ => exact va_eqt (z := (-1)) (hs (Cond.eq (.elem (.static "HotStack$Bodies" "ABOVE" "[I") (.int 0)) (.int (-1))) (by decide +kernel))
    | 1, _ => exact va_eqt (z := 0) (hs (Cond.eq (.elem (.static "HotStack$Bodies" "ABOVE" "[I") (.int 1)) (.int 0)) (by decide +kernel))
    | 2, _ => exact va_eqt (z := 0) (hs (Cond.eq (.elem (.static "HotStack$Bodies" "ABOVE" "[I") (.int 2)) (.int 0)) (by decide +kernel))
    | 3, _ => exact va_eqt (z := 2) (hs (Cond.eq (.elem (.static "HotStack$Bodies" "ABOVE" "[I") (.int 3)) (.int 2)) (by decide +kernel))
    | 4, _ => exact va_eqt (z := 1) (hs (Cond.eq (.elem (.static "HotStack$Bodies" "ABOVE" "[I") (.int 4)) (.int 1)) (by decide +kernel))
    | 5, _ => exact va_eqt (z := 3) (hs (Cond.eq (.elem (.static "HotStack$Bodies" "ABOVE" "[I") (.int 5)) (.int 3)) (by decide +kernel))
    | 6, _ => exact va_eqt (z := 0) (hs (Cond.eq (.elem (.static "HotStack$Bodies" "ABOVE" "[I") (.int 6)) (.int 0)) (by decide +kernel))
    | 7, _ => exact va_eqt (z := 6) (hs (Cond.eq (.elem (.static "HotStack$Bodies" "ABOVE" "[I") (.int 7)) (.int 6)) (by decide +kernel))
    | j + 8, h => exact absurd h (by omega)) hA
  exact ⟨t, va_Zof hl hi h1 hA, h2⟩
set_option maxHeartbeats 4000000 in
theorem x_Z_OWN {args : Array Value} {s : State} {A : Nat → Prop} (hs : ∀ w ∈ flatC (Jvm.Cond.and given_1 narrow_1), w.before args s = true) (hl : (Cond.laysStatic RX0 "OWN" "[I").before args s = true) (hi : (Cond.initialized RX0).before args s = true) (hA : ∀ a : Nat, a < s.heap.size → ¬ A a) : ∃ t : Nat, xZ1 RX0 "OWN" t 32 xt_OWN A s s.heap := by
  obtain ⟨t, h1, h2⟩ := va_Tof (args := args) (s := s) (tm := (.static "HotStack$Bodies" "OWN" "[I")) (ty := .int) (N := 32) (f := fun j => .int (xt_OWN j)) (A := A) (by decide) (hs (Cond.arrayOf (.static "HotStack$Bodies" "OWN" "[I") .int) (by decide +kernel)) (va_eqt (hs (Cond.eq (.length (.static "HotStack$Bodies" "OWN" "[I")) (.int 32)) (by decide +kernel))) (fun j hj => by
    match j, hj with
    | 0, _ => exact va_eqt (z := 1) (hs (Cond.eq (.elem (.static "HotStack$Bodies" "OWN" "[I") (.int 0)) (.int 1)) (by decide +kernel))
    | 1, _ => exact va_eqt (z := 10) (hs (Cond.eq (.elem (.static "HotStack$Bodies" "OWN" "[I") (.int 1)) (.int 10)) (by decide +kernel))
    | 2, _ => exact va_eqt (z := 11) (hs (Cond.eq (.elem (.static "HotStack$Bodies" "OWN" "[I") (.int 2)) (.int 11)) (by decide +kernel))
    | 3, _ => exact va_eqt (z := 2) (hs (Cond.eq (.elem (.static "HotStack$Bodies" "OWN" "[I") (.int 3)) (.int 2)) (by decide +kernel))
    | 4, _ => exact va_eqt (z := 20) (hs (Cond.eq (.elem (.static "HotStack$Bodies" "OWN" "[I") (.int 4)) (.int 20)) (by decide +kernel))
    | 5, _ => exact va_eqt (z := 0) (hs (Cond.eq (.elem (.static "HotStack$Bodies" "OWN" "[I") (.int 5)) (.int 0)) (by decide +kernel))
    | 6, _ => exact va_eqt (z := 0) (hs (Cond.eq (.elem (.static "HotStack$Bodies" "OWN" "[I") (.int 6)) (.int 0)) (by decide +kernel))
    | 7, _ => exact va_eqt (z := 0) (hs (Cond.eq (.elem (.static "HotStack$Bodies" "OWN" "[I") (.int 7)) (.int 0)) (by decide +kernel))
    | 8, _ => exact va_eqt (z := 0) (hs (Cond.eq (.elem (.static "HotStack$Bodies" "OWN" "[I") (.int 8)) (.int 0)) (by decide +kernel))
    | 9, _ => exact va_eqt (z := 30) (hs (Cond.eq (.elem (.static "HotStack$Bodies" "OWN" "[I") (.int 9)) (.int 30)) (by decide +kernel))
    | 10, _ => exact va_eqt (z := 0) (hs (Cond.eq (.elem (.static "HotStack$Bodies" "OWN" "[I") (.int 10)) (.int 0)) (by decide +kernel))
    | 11, _ => exact va_eqt (z := 0) (hs (Cond.eq (.elem (.static "HotStack$Bodies" "OWN" "[I") (.int 11)) (.int 0)) (by decide +kernel))
    | 12, _ => exact va_eqt (z := 0) (hs (Cond.eq (.elem (.static "HotStack$Bodies" "OWN" "[I") (.int 12)) (.int 0)) (by decide +kernel))
    | 13, _ => exact va_eqt (z := 41) (hs (Cond.eq (.elem (.static "HotStack$Bodies" "OWN" "[I") (.int 13)) (.int 41)) (by decide +kernel))
    | 14, _ => exact va_eqt (z := 40) (hs (Cond.eq (.elem (.static "HotStack$Bodies" "OWN" "[I") (.int 14)) (.int 40)) (by decide +kernel))
    | 15, _ => exact va_eqt (z := 0) (hs (Cond.eq (.elem (.static "HotStack$Bodies" "OWN" "[I") (.int 15)) (.int 0)) (by decide +kernel))
    | 16, _ => exact va_eqt (z := 0) (hs (Cond.eq (.elem (.static "HotStack$Bodies" "OWN" "[I") (.int 16)) (.int 0)) (by decide +kernel))
    | 17, _ => exact va_eqt (z := 0) (hs (Cond.eq (.elem (.static "HotStack$Bodies" "OWN" "[I") (.int 17)) (.int 0)) (by decide +kernel))
    | 18, _ => exact va_eqt (z := 0) (hs (Cond.eq (.elem (.static "HotStack$Bodies" "OWN" "[I") (.int 18)) (.int 0)) (by decide +kernel))
    | 19, _ => exact va_eqt (z := 50) (hs (Cond.eq (.elem (.static "HotStack$Bodies" "OWN" "[I") (.int 19)) (.int 50)) (by decide +kernel))
    | 20, _ => exact va_eqt (z := 0) (hs (Cond.eq (.elem (.static "HotStack$Bodies" "OWN" "[I") (.int 20)) (.int 0)) (by decide +kernel))
    | 21, _ => exact va_eqt (z := 0) (hs (Cond.eq (.elem (.static "HotStack$Bodies" "OWN" "[I") (.int 21)) (.int 0)) (by decide +kernel))
    | 22, _ => exact va_eqt (z := 60) (hs (Cond.eq (.elem (.static "HotStack$Bodies" "OWN" "[I") (.int 22)) (.int 60)) (by decide +kernel))
    | 23, _ => exact va_eqt (z := 61) (hs (Cond.eq (.elem (.static "HotStack$Bodies" "OWN" "[I") (.int 23)) (.int 61)) (by decide +kernel))
    | 24, _ => exact va_eqt (z := 70) (hs (Cond.eq (.elem (.static "HotStack$Bodies" "OWN" "[I") (.int 24)) (.int 70)) (by decide +kernel))
    | 25, _ => exact va_eqt (z := 0) (hs (Cond.eq (.elem (.static "HotStack$Bodies" "OWN" "[I") (.int 25)) (.int 0)) (by decide +kernel))
    | 26, _ => exact va_eqt (z := 0) (hs (Cond.eq (.elem (.static "HotStack$Bodies" "OWN" "[I") (.int 26)) (.int 0)) (by decide +kernel))
    | 27, _ => exact va_eqt (z := 0) (hs (Cond.eq (.elem (.static "HotStack$Bodies" "OWN" "[I") (.int 27)) (.int 0)) (by decide +kernel))
    | 28, _ => exact va_eqt (z := 81) (hs (Cond.eq (.elem (.static "HotStack$Bodies" "OWN" "[I") (.int 28)) (.int 81)) (by decide +kernel))
    | 29, _ => exact va_eqt (z := 80) (hs (Cond.eq (.elem (.static "HotStack$Bodies" "OWN" "[I") (.int 29)) (.int 80)) (by decide +kernel))
    | 30, _ => exact va_eqt (z := 0) (hs (Cond.eq (.elem (.static "HotStack$Bodies" "OWN" "[I") (.int 30)) (.int 0)) (by decide +kernel))
    | 31, _ => exact va_eqt (z := 0) (hs (Cond.eq (.elem (.static "HotStack$Bodies" "OWN" "[I") (.int 31)) (.int 0)) (by decide +kernel))
    | j + 32, h => exact absurd h (by omega)) hA
  exact ⟨t, va_Zof hl hi h1 hA, h2⟩
theorem xn1 : Cond.methodLinkNest RX7 40 yX11_lowestBit RX11 ∈ lw_tbl := by decide +kernel
theorem xn2 : Cond.fieldLinkNest RX4 87 RX11 "MOST" "[I" RX11 ∈ lw_tbl := by decide +kernel
theorem xn3 : Cond.fieldLinkNest RX6 62 RX11 "MOST" "[I" RX11 ∈ lw_tbl := by decide +kernel
theorem xn4 : Cond.fieldLinkNest RX1 28 RX11 "MOST" "[I" RX11 ∈ lw_tbl := by decide +kernel
theorem xn5 : Cond.fieldLinkNest RX3 51 RX11 "MOST" "[I" RX11 ∈ lw_tbl := by decide +kernel
theorem xo9 : Cond.methodLinkNest RX11 9 yX9_init RX11 ∈ lw_tbl := by decide +kernel
theorem xo18 : Cond.methodLinkNest RX11 18 yX5_init RX11 ∈ lw_tbl := by decide +kernel
theorem xo78 : Cond.methodLinkNest RX11 78 yX2_init RX11 ∈ lw_tbl := by decide +kernel
theorem xo85 : Cond.methodLinkNest RX11 85 yX0_init RX11 ∈ lw_tbl := by decide +kernel
theorem xo96 : Cond.methodLinkNest RX11 96 yX8_init RX11 ∈ lw_tbl := by decide +kernel
theorem xo4 : Cond.arrayOver (.object RX4) ∈ lw_tbl := by decide +kernel
theorem xo8 : Cond.arrayOver (.object RX8) ∈ lw_tbl := by decide +kernel
theorem xls_LEAST : Cond.laysStatic RX11 "LEAST" "[I" ∈ lw_tbl := by decide +kernel
theorem xls_MOST : Cond.laysStatic RX11 "MOST" "[I" ∈ lw_tbl := by decide +kernel
theorem xls_ABOVE : Cond.laysStatic RX0 "ABOVE" "[I" ∈ lw_tbl := by decide +kernel
theorem xls_OWN : Cond.laysStatic RX0 "OWN" "[I" ∈ lw_tbl := by decide +kernel
theorem x_Ex0 {args : Array Value} {s : State} {A : Nat → Prop} (hts : ∀ w ∈ lw_tbl, w.before args s = true) (hgv : (Jvm.Cond.and given_1 narrow_1).before args s = true) (hA : ∀ a : Nat, a < s.heap.size → ¬ A a) : ∃ z : Nat → Nat, xEx z A s s.heap := by
  have hs := flat_of_before _ hgv
  obtain ⟨z0, h0⟩ := x_Z_LEAST hs (hts _ xls_LEAST) (hts _ (List.mem_filter.mp (xw_mem 98 (by decide +kernel) rfl)).1) hA
  obtain ⟨z1, h1⟩ := x_Z_MOST hs (hts _ xls_MOST) (hts _ (List.mem_filter.mp (xw_mem 98 (by decide +kernel) rfl)).1) hA
  obtain ⟨z2, h2⟩ := x_Z_ABOVE hs (hts _ xls_ABOVE) (hts _ (List.mem_filter.mp (xw_mem 108 (by decide +kernel) rfl)).1) hA
  obtain ⟨z3, h3⟩ := x_Z_OWN hs (hts _ xls_OWN) (hts _ (List.mem_filter.mp (xw_mem 108 (by decide +kernel) rfl)).1) hA
  exact ⟨fun k => ([z0, z1, z2, z3] : List Nat).getD k z0, ⟨va_Nw.of rfl (hts _ xn1), va_Nw.of rfl (hts _ xn2), va_Nw.of rfl (hts _ xn3), va_Nw.of rfl (hts _ xn4), va_Nw.of rfl (hts _ xn5)⟩, h0, h1, h2, h3⟩
theorem x_N11 {args : Array Value} {s : State} (hts : ∀ w ∈ lw_tbl, w.before args s = true) : xN11 s :=
  ⟨va_AO.of (hts _ xo4), va_AO.of (hts _ xo8), va_Nw.of rfl (hts _ xo9), va_Nw.of rfl (hts _ xo18), va_Nw.of rfl (hts _ xo78), va_Nw.of rfl (hts _ xo85), va_Nw.of rfl (hts _ xo96)⟩
