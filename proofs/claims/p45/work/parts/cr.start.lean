/-! part cr: what holds at the law's entry (made by wip/p45/gen_cr.py) -/
theorem x_K0 {args : Array Value} {s : State} (hts : ∀ w ∈ xTB, w.before args s = true) (h4 : (Cond.arrayOver (.object RX4)).before args s = true) (h8 : (Cond.arrayOver (.object RX8)).before args s = true) (hO : (Cond.arrayOver (.object "java/lang/Object")).before args s = true) : ∃ (D : va_G) (cy : Nat → ClassId), va_K D vwCl (xtyL cy) s := by
  obtain ⟨c0, i0, k0⟩ := u_known (C := RX0) (T := TX0) (N := 5) (n := 5) hts xin_X0 (hts _ (xw_mem 333 (by decide +kernel) rfl))
  obtain ⟨c1, i1, k1⟩ := u_known (C := RX1) (T := TX1) (N := 2) (n := 2) hts xin_X1 (hts _ (xw_mem 294 (by decide +kernel) rfl))
  obtain ⟨c2, i2, k2⟩ := u_known (C := RX2) (T := TX2) (N := 6) (n := 6) hts xin_X2 (hts _ (xw_mem 307 (by decide +kernel) rfl))
  obtain ⟨c3, i3, k3⟩ := u_known (C := RX3) (T := TX3) (N := 6) (n := 6) hts xin_X3 (hts _ (xw_mem 264 (by decide +kernel) rfl))
  obtain ⟨c4, i4, k4⟩ := u_known (C := RX4) (T := TX4) (N := 12) (n := 12) hts xin_X4 (hts _ (xw_mem 141 (by decide +kernel) rfl))
  obtain ⟨c5, i5, k5⟩ := u_known (C := RX5) (T := TX5) (N := 8) (n := 8) hts xin_X5 (hts _ (xw_mem 110 (by decide +kernel) rfl))
  obtain ⟨c6, i6, k6⟩ := u_known (C := RX6) (T := TX6) (N := 7) (n := 7) hts xin_X6 (hts _ (xw_mem 235 (by decide +kernel) rfl))
  obtain ⟨c7, i7, k7⟩ := u_known (C := RX7) (T := TX7) (N := 3) (n := 3) hts xin_X7 (hts _ (xw_mem 218 (by decide +kernel) rfl))
  obtain ⟨c8, i8, k8⟩ := u_known (C := RX8) (T := TX8) (N := 5) (n := 5) hts xin_X8 (hts _ (xw_mem 355 (by decide +kernel) rfl))
  obtain ⟨c9, i9, k9⟩ := u_known (C := RX9) (T := TX9) (N := 10) (n := 10) hts xin_X9 (hts _ (xw_mem 66 (by decide +kernel) rfl))
  obtain ⟨c10, i10, k10⟩ := u_known (C := RX10) (T := TX10) (N := 4) (n := 4) hts xin_X10 (hts _ (xw_mem 197 (by decide +kernel) rfl))
  obtain ⟨c11, i11, k11⟩ := u_known (C := RX11) (T := TX11) (N := 13) (n := 13) hts xin_X11 (hts _ (xw_mem 58 (by decide +kernel) rfl))
  obtain ⟨c12, i12, k12⟩ := u_known (C := RX12) (T := TX12) (N := 8) (n := 8) hts xin_X12 (hts _ (xw_mem 788 (by decide +kernel) rfl))
  obtain ⟨c13, i13, k13⟩ := u_known (C := RJ6) (T := TJ6) (N := 1) (n := 1) hts xin_J6 (hts _ (xw_mem 875 (by decide +kernel) rfl))
  obtain ⟨c14, i14, k14⟩ := u_known (C := RJx35411) (T := TJx35411) (N := 4) (n := 4) hts xin_Jx35411 (hts _ (xw_mem 1091 (by decide +kernel) rfl))
  obtain ⟨c15, i15, k15⟩ := u_known (C := RJx4a65c) (T := TJx4a65c) (N := 3) (n := 3) hts xin_Jx4a65c (hts _ (xw_mem 835 (by decide +kernel) rfl))
  obtain ⟨ai, bi, di, fi, gi, ji⟩ := Cond.arrayClass_spec (hts _ xar_i)
  obtain ⟨al, bl, dl, fl, gl, jl⟩ := Cond.arrayClass_spec (hts _ xar_l)
  obtain ⟨m4, a4, b4, f4, -, g4, j4, r4⟩ := Cond.arrayOver_spec h4
  obtain ⟨m8, a8, b8, f8, -, g8, j8, r8⟩ := Cond.arrayOver_spec h8
  obtain ⟨mo, ao, bo, fo, -, go, jo, ro⟩ := Cond.arrayOver_spec hO
  refine ⟨(fun k => ([c0, c1, c2, c3, c4, c5, c6, c7, c8, c9, c10, c11, c12, c13, c14, c15] : List ClassId).getD k c0, fun k => ([i0, i1, i2, i3, i4, i5, i6, i7, i8, i9, i10, i11, i12, i13, i14, i15] : List (Nat → Nat)).getD k i0), fun k => ([ai, ai, ai, al, a4, a8, ao] : List ClassId).getD k ai, fun k q hq => ?_, fun k q hq => ?_⟩
  · match k, hq with
    | 0, hq => cases hq; exact k0
    | 1, hq => cases hq; exact k1
    | 2, hq => cases hq; exact k2
    | 3, hq => cases hq; exact k3
    | 4, hq => cases hq; exact k4
    | 5, hq => cases hq; exact k5
    | 6, hq => cases hq; exact k6
    | 7, hq => cases hq; exact k7
    | 8, hq => cases hq; exact k8
    | 9, hq => cases hq; exact k9
    | 10, hq => cases hq; exact k10
    | 11, hq => cases hq; exact k11
    | 12, hq => cases hq; exact k12
    | 13, hq => cases hq; exact k13
    | 14, hq => cases hq; exact k14
    | 15, hq => cases hq; exact k15
    | k + 16, hq => exact absurd (show k + 16 < 16 from (List.getElem?_eq_some_iff.mp hq).1) (by omega)
  · match k, hq with
    | 0, hq => cases hq; exact ⟨fun n z => ⟨fun k h => (by cases h), bi, gi, di, ji⟩, fi⟩
    | 1, hq => cases hq; exact ⟨fun n z => ⟨fun k h => (by cases h), bi, gi, di, ji⟩, fi⟩
    | 2, hq => cases hq; exact ⟨fun n z => ⟨fun k h => (by cases h), bi, gi, di, ji⟩, fi⟩
    | 3, hq => cases hq; exact ⟨fun n z => ⟨fun k h => (by cases h), bl, gl, dl, jl⟩, fl⟩
    | 4, hq => cases hq; exact ⟨fun n z => ⟨fun k h => (by cases h), b4, g4, m4, j4⟩, b4, m4, g4, j4, f4, r4⟩
    | 5, hq => cases hq; exact ⟨fun n z => ⟨fun k h => (by cases h), b8, g8, m8, j8⟩, b8, m8, g8, j8, f8, r8⟩
    | 6, hq => cases hq; exact ⟨fun n z => ⟨fun k h => (by cases h), bo, go, mo, jo⟩, bo, mo, go, jo, fo, ro⟩
    | k + 7, hq => exact absurd (show k + 7 < 7 from (List.getElem?_eq_some_iff.mp hq).1) (by omega)
set_option maxHeartbeats 4000000 in
theorem x_Z_LEAST {args : Array Value} {s : State} {A : Nat → Prop} (hs : ∀ w ∈ flatC (Jvm.Cond.and given_1 narrow_1), w.before args s = true) (hl : (Cond.laysStatic RX11 "LEAST" "[I").before args s = true) (hi : (Cond.initialized RX11).before args s = true) (hA : ∀ a : Nat, a < s.heap.size → ¬ A a) : ∃ t : Nat, xZ1 RX11 "LEAST" t 8 xt_LEAST A s s.heap := by
  obtain ⟨t, h1, h2⟩ := va_Tof (args := args) (s := s) (tm := (.static "HotStack" "LEAST" "[I")) (ty := .int) (N := 8) (f := fun j => .int (xt_LEAST j)) (A := A) (by decide) (hs (Cond.arrayOf (.static "HotStack" "LEAST" "[I") .int) (by decide +kernel)) (va_eqt (hs (Cond.eq (.length (.static "HotStack" "LEAST" "[I")) (.int 8)) (by decide +kernel))) (fun j hj => by
    match j, hj with
    | 0, _ => exact va_eqt (z := 0) (hs (Cond.eq (.elem (.static "HotStack" "LEAST" "[I") (.int 0)) (.int 0)) (by decide +kernel))
    | 1, _ => exact va_eqt (z := 0) (hs (Cond.eq (.elem (.static "HotStack" "LEAST" "[I") (.int 1)) (.int 0)) (by decide +kernel))
    | 2, _ => exact va_eqt (z := 0) (hs (Cond.eq (.elem (.static "HotStack" "LEAST" "[I") (.int 2)) (.int 0)) (by decide +kernel))
    | 3, _ => exact va_eqt (z := 0) (hs (Cond.eq (.elem (.static "HotStack" "LEAST" "[I") (.int 3)) (.int 0)) (by decide +kernel))
    | 4, _ => exact va_eqt (z := 0) (hs (Cond.eq (.elem (.static "HotStack" "LEAST" "[I") (.int 4)) (.int 0)) (by decide +kernel))
    | 5, _ => exact va_eqt (z := 0) (hs (Cond.eq (.elem (.static "HotStack" "LEAST" "[I") (.int 5)) (.int 0)) (by decide +kernel))
    | 6, _ => exact va_eqt (z := 30) (hs (Cond.eq (.elem (.static "HotStack" "LEAST" "[I") (.int 6)) (.int 30)) (by decide +kernel))
    | 7, _ => exact va_eqt (z := 0) (hs (Cond.eq (.elem (.static "HotStack" "LEAST" "[I") (.int 7)) (.int 0)) (by decide +kernel))
    | j + 8, h => exact absurd h (by omega)) hA
  exact ⟨t, va_Zof hl hi h1 hA, h2⟩
set_option maxHeartbeats 4000000 in
theorem x_Z_MOST {args : Array Value} {s : State} {A : Nat → Prop} (hs : ∀ w ∈ flatC (Jvm.Cond.and given_1 narrow_1), w.before args s = true) (hl : (Cond.laysStatic RX11 "MOST" "[I").before args s = true) (hi : (Cond.initialized RX11).before args s = true) (hA : ∀ a : Nat, a < s.heap.size → ¬ A a) : ∃ t : Nat, xZ1 RX11 "MOST" t 8 xt_MOST A s s.heap := by
  obtain ⟨t, h1, h2⟩ := va_Tof (args := args) (s := s) (tm := (.static "HotStack" "MOST" "[I")) (ty := .int) (N := 8) (f := fun j => .int (xt_MOST j)) (A := A) (by decide) (hs (Cond.arrayOf (.static "HotStack" "MOST" "[I") .int) (by decide +kernel)) (va_eqt (hs (Cond.eq (.length (.static "HotStack" "MOST" "[I")) (.int 8)) (by decide +kernel))) (fun j hj => by
    match j, hj with
    | 0, _ => exact va_eqt (z := 9) (hs (Cond.eq (.elem (.static "HotStack" "MOST" "[I") (.int 0)) (.int 9)) (by decide +kernel))
    | 1, _ => exact va_eqt (z := 99) (hs (Cond.eq (.elem (.static "HotStack" "MOST" "[I") (.int 1)) (.int 99)) (by decide +kernel))
    | 2, _ => exact va_eqt (z := 99) (hs (Cond.eq (.elem (.static "HotStack" "MOST" "[I") (.int 2)) (.int 99)) (by decide +kernel))
    | 3, _ => exact va_eqt (z := 1) (hs (Cond.eq (.elem (.static "HotStack" "MOST" "[I") (.int 3)) (.int 1)) (by decide +kernel))
    | 4, _ => exact va_eqt (z := 9) (hs (Cond.eq (.elem (.static "HotStack" "MOST" "[I") (.int 4)) (.int 9)) (by decide +kernel))
    | 5, _ => exact va_eqt (z := 1) (hs (Cond.eq (.elem (.static "HotStack" "MOST" "[I") (.int 5)) (.int 1)) (by decide +kernel))
    | 6, _ => exact va_eqt (z := 99) (hs (Cond.eq (.elem (.static "HotStack" "MOST" "[I") (.int 6)) (.int 99)) (by decide +kernel))
    | 7, _ => exact va_eqt (z := 99) (hs (Cond.eq (.elem (.static "HotStack" "MOST" "[I") (.int 7)) (.int 99)) (by decide +kernel))
    | j + 8, h => exact absurd h (by omega)) hA
  exact ⟨t, va_Zof hl hi h1 hA, h2⟩
theorem xn1 : Cond.methodLinkNest RX7 40 yX11_lowestBit RX11 ∈ lw_tbl := by decide +kernel
theorem xn2 : Cond.fieldLinkNest RX4 87 RX11 "MOST" "[I" RX11 ∈ lw_tbl := by decide +kernel
theorem xn3 : Cond.fieldLinkNest RX6 62 RX11 "MOST" "[I" RX11 ∈ lw_tbl := by decide +kernel
theorem xn4 : Cond.fieldLinkNest RX1 28 RX11 "MOST" "[I" RX11 ∈ lw_tbl := by decide +kernel
theorem xn5 : Cond.fieldLinkNest RX3 51 RX11 "MOST" "[I" RX11 ∈ lw_tbl := by decide +kernel
theorem xo9 : Cond.methodLinkNest RX11 9 yX9_init RX11 ∈ lw_tbl := by decide +kernel
theorem xo18 : Cond.methodLinkNest RX11 18 yX5_init RX11 ∈ lw_tbl := by decide +kernel
theorem xo78 : Cond.methodLinkNest RX11 78 yX2_init RX11 ∈ lw_tbl := by decide +kernel
theorem xo85 : Cond.methodLinkNest RX11 85 yX0_init RX11 ∈ lw_tbl := by decide +kernel
theorem xo96 : Cond.methodLinkNest RX11 96 yX8_init RX11 ∈ lw_tbl := by decide +kernel
theorem xo4 : Cond.arrayOver (.object RX4) ∈ lw_tbl := by decide +kernel
theorem xo8 : Cond.arrayOver (.object RX8) ∈ lw_tbl := by decide +kernel
theorem xoO : Cond.arrayOver (.object "java/lang/Object") ∈ lw_tbl := by decide +kernel
theorem xoA : Cond.arrayOver (.array .int) ∈ lw_tbl := by decide +kernel
theorem xs1 : Cond.methodLinkNest RX12 34 yL_cell RL ∈ lw_tbl := by decide +kernel
theorem xs2 : Cond.methodLinkNest RX12 40 yL_number RL ∈ lw_tbl := by decide +kernel
theorem xf1 : Cond.fieldLinkNest RL 174 RX12 "high" "[I" RL ∈ lw_tbl := by decide +kernel
theorem xf2 : Cond.fieldLinkNest RL 126 RX12 "damp" "[I" RL ∈ lw_tbl := by decide +kernel
theorem xf3 : Cond.fieldLinkNest RL 130 RX12 "salt" "[I" RL ∈ lw_tbl := by decide +kernel
theorem xj1 : Cond.declares ⟨"java/lang/Object", "getClass", "()Ljava/lang/Class;"⟩ ∈ lw_tbl := by decide +kernel
theorem xj2 : Cond.castable "java/lang/Integer" "java/lang/Object" ∈ lw_tbl := by decide +kernel
theorem xj3 : Cond.fieldLinkNest RJx35411 28 RJx4a65c "size" "I" RJx4a65c ∈ lw_tbl := by decide +kernel
theorem xw01 : Cond.declares yI_hasNext ∈ lw_tbl := by decide +kernel
theorem xw02 : Cond.interfaceMethod yI_hasNext.cls yI_hasNext.cls yI_hasNext.name yI_hasNext.desc ∈ lw_tbl := by decide +kernel
theorem xw03 : Cond.publicMethod yJx35411_hasNext_aae02 ∈ lw_tbl := by decide +kernel
theorem xw04 : Cond.unhidden RJx35411 yI_hasNext.name yI_hasNext.desc ∈ lw_tbl := by decide +kernel
theorem xw05 : Cond.castable RJx35411 yI_hasNext.cls ∈ lw_tbl := by decide +kernel
theorem xw11 : Cond.declares yI_next ∈ lw_tbl := by decide +kernel
theorem xw12 : Cond.interfaceMethod yI_next.cls yI_next.cls yI_next.name yI_next.desc ∈ lw_tbl := by decide +kernel
theorem xw13 : Cond.publicMethod yJx35411_next_0502b ∈ lw_tbl := by decide +kernel
theorem xw14 : Cond.unhidden RJx35411 yI_next.name yI_next.desc ∈ lw_tbl := by decide +kernel
theorem xw15 : Cond.castable RJx35411 yI_next.cls ∈ lw_tbl := by decide +kernel
theorem xls_LEAST : Cond.laysStatic RX11 "LEAST" "[I" ∈ lw_tbl := by decide +kernel
theorem xls_MOST : Cond.laysStatic RX11 "MOST" "[I" ∈ lw_tbl := by decide +kernel
theorem xls_DEFAULTCAPACITY_EMPTY_ELEMENTDATA : Cond.laysStatic "java/util/ArrayList" "DEFAULTCAPACITY_EMPTY_ELEMENTDATA" "[Ljava/lang/Object;" ∈ lw_tbl := by decide +kernel
theorem xls_high : Cond.laysStatic RJxabbfe "high" "I" ∈ lw_tbl := by decide +kernel
theorem xls_cache : Cond.laysStatic RJxabbfe "cache" "[Ljava/lang/Integer;" ∈ lw_tbl := by decide +kernel
theorem x_Ex0 {args : Array Value} {s : State} {A : Nat → Prop} (hts : ∀ w ∈ lw_tbl, w.before args s = true) (hgv : (Jvm.Cond.and given_1 narrow_1).before args s = true) (hA : ∀ a : Nat, a < s.heap.size → ¬ A a) : ∃ z : Nat → Nat, xEx z A s s.heap := by
  have hs := flat_of_before _ hgv
  obtain ⟨z0, h0⟩ := x_Z_LEAST hs (hts _ xls_LEAST) (hts _ (List.mem_filter.mp (xw_mem 30 (by decide +kernel) rfl)).1) hA
  obtain ⟨z1, h1⟩ := x_Z_MOST hs (hts _ xls_MOST) (hts _ (List.mem_filter.mp (xw_mem 30 (by decide +kernel) rfl)).1) hA
  exact ⟨fun k => ([z0, z1] : List Nat).getD k z0, ⟨va_Nw.of rfl (hts _ xn1), va_Nw.of rfl (hts _ xn2), va_Nw.of rfl (hts _ xn3), va_Nw.of rfl (hts _ xn4), va_Nw.of rfl (hts _ xn5)⟩, h0, h1⟩
theorem x_N11 {args : Array Value} {s : State} (hts : ∀ w ∈ lw_tbl, w.before args s = true) : xN11 s :=
  ⟨va_AO.of (hts _ xo4), va_AO.of (hts _ xo8), va_Nw.of rfl (hts _ xo9), va_Nw.of rfl (hts _ xo18), va_Nw.of rfl (hts _ xo78), va_Nw.of rfl (hts _ xo85), va_Nw.of rfl (hts _ xo96)⟩
theorem x_jN {args : Array Value} {s : State} (hts : ∀ w ∈ lw_tbl, w.before args s = true) (hgv : (Jvm.Cond.and given_1 narrow_1).before args s = true) : ∃ mi : Nat, jN mi s := by
  have hs := flat_of_before _ hgv
  obtain ⟨mi, h⟩ := va_Mi.of (hs (Cond.isRef (.mirror "[Ljava/lang/Object;")) (by decide +kernel))
  exact ⟨mi, h, va_AO.of (hts _ xoO), va_Dc.of (hts _ xj1), va_Nw.of rfl (hts _ xj2), va_Nw.of rfl (hts _ xj3), va_Fw.of (hts _ xw01) (hts _ xw02) (hts _ xw03) (hts _ xw04) (hts _ xw05), va_Fw.of (hts _ xw11) (hts _ xw12) (hts _ xw13) (hts _ xw14) (hts _ xw15)⟩
theorem x_jZ {args : Array Value} {s : State} {A : Nat → Prop} (hts : ∀ w ∈ lw_tbl, w.before args s = true) (hgv : (Jvm.Cond.and given_1 narrow_1).before args s = true) (hA : ∀ a : Nat, a < s.heap.size → ¬ A a) : ∃ (zE zc : Nat) (ad : Nat → Nat), jZ zE zc ad A s s.heap := by
  have hs := flat_of_before _ hgv
  obtain ⟨zE, e1, e2⟩ := va_Tof (args := args) (s := s) (tm := .static "java/util/ArrayList" "DEFAULTCAPACITY_EMPTY_ELEMENTDATA" "[Ljava/lang/Object;") (ty := .object "java/lang/Object") (N := 0) (f := fun _ => .null) (A := A) (by decide) (hs _ (by decide +kernel)) (va_eqt (hs (Cond.eq (.length (.static "java/util/ArrayList" "DEFAULTCAPACITY_EMPTY_ELEMENTDATA" "[Ljava/lang/Object;")) (.int 0)) (by decide +kernel))) (fun j hj => absurd hj (Nat.not_lt_zero j)) hA
  have hlen := va_eqt (hs (Cond.eq (.length (.static "java/lang/Integer$IntegerCache" "cache" "[Ljava/lang/Integer;")) (.int 256)) (by decide +kernel))
  obtain ⟨ad, h6, h7⟩ := vb_Cof (A := A) (st := .static "java/lang/Integer$IntegerCache" "cache" "[Ljava/lang/Integer;") (by decide) hlen (hs _ (by decide +kernel)) hA
  obtain ⟨zc, c1, c2⟩ := va_Tof (args := args) (s := s) (tm := .static "java/lang/Integer$IntegerCache" "cache" "[Ljava/lang/Integer;") (ty := .object "java/lang/Integer") (N := 256) (f := fun j => .ref (ad j)) (A := A) (by decide) (hs _ (by decide +kernel)) hlen h7 hA
  have hhi := va_eqi (hs (Cond.eq (.static "java/lang/Integer$IntegerCache" "high" "I") (.int 127)) (by decide +kernel))
  exact ⟨zE, zc, ad, va_Zof (hts _ xls_DEFAULTCAPACITY_EMPTY_ELEMENTDATA) (hts _ (List.mem_filter.mp (xw_mem 46 (by decide +kernel) rfl)).1) e1 hA, e2, va_Zof (hts _ xls_high) (hts _ (List.mem_filter.mp (xw_mem 49 (by decide +kernel) rfl)).1) hhi hA, va_Zof (hts _ xls_cache) (hts _ (List.mem_filter.mp (xw_mem 49 (by decide +kernel) rfl)).1) c1 hA, c2, h6⟩
