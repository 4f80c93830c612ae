def f_X4_takeStack_0 (o : Nat) (o1 : Nat) (S : xSt) : Option (xSt × Unit) :=
  xgd (¬ (0 : Int32) < 0 ∧ ¬ (0 : Int32) < 0 ∧ ¬ (6 : Int32) < 0 ∧ (0 : Int32).toNatClampNeg + (6 : Int32).toNatClampNeg ≤ 6 ∧ (0 : Int32).toNatClampNeg + (6 : Int32).toNatClampNeg ≤ 6) (xbd (xcpi S (o1 + 1) (0 : Int32).toNatClampNeg (o + 1) (0 : Int32).toNatClampNeg (6 : Int32).toNatClampNeg) (fun S_1 => xgd (¬ (0 : Int32) < 0 ∧ ¬ (0 : Int32) < 0 ∧ ¬ (30 : Int32) < 0 ∧ (0 : Int32).toNatClampNeg + (30 : Int32).toNatClampNeg ≤ 30 ∧ (0 : Int32).toNatClampNeg + (30 : Int32).toNatClampNeg ≤ 30) (xbd (xcpi S_1 (o1 + 3) (0 : Int32).toNatClampNeg (o + 3) (0 : Int32).toNatClampNeg (30 : Int32).toNatClampNeg) (fun S_2 => xgd (¬ (0 : Int32) < 0 ∧ ¬ (0 : Int32) < 0 ∧ ¬ (30 : Int32) < 0 ∧ (0 : Int32).toNatClampNeg + (30 : Int32).toNatClampNeg ≤ 30 ∧ (0 : Int32).toNatClampNeg + (30 : Int32).toNatClampNeg ≤ 30) (xbd (xcpi S_2 (o1 + 4) (0 : Int32).toNatClampNeg (o + 4) (0 : Int32).toNatClampNeg (30 : Int32).toNatClampNeg) (fun S_3 => xgd (¬ (0 : Int32) < 0 ∧ ¬ (0 : Int32) < 0 ∧ ¬ (30 : Int32) < 0 ∧ (0 : Int32).toNatClampNeg + (30 : Int32).toNatClampNeg ≤ 30 ∧ (0 : Int32).toNatClampNeg + (30 : Int32).toNatClampNeg ≤ 30) (xbd (xcpi S_3 (o1 + 5) (0 : Int32).toNatClampNeg (o + 5) (0 : Int32).toNatClampNeg (30 : Int32).toNatClampNeg) (fun S_4 => xgd (¬ (0 : Int32) < 0 ∧ ¬ (0 : Int32) < 0 ∧ ¬ (30 : Int32) < 0 ∧ (0 : Int32).toNatClampNeg + (30 : Int32).toNatClampNeg ≤ 30 ∧ (0 : Int32).toNatClampNeg + (30 : Int32).toNatClampNeg ≤ 30) (xbd (xcpi S_4 (o1 + 6) (0 : Int32).toNatClampNeg (o + 6) (0 : Int32).toNatClampNeg (30 : Int32).toNatClampNeg) (fun S_5 => xgd (¬ (0 : Int32) < 0 ∧ ¬ (0 : Int32) < 0 ∧ ¬ (30 : Int32) < 0 ∧ (0 : Int32).toNatClampNeg + (30 : Int32).toNatClampNeg ≤ 30 ∧ (0 : Int32).toNatClampNeg + (30 : Int32).toNatClampNeg ≤ 30) (xbd (xcpi S_5 (o1 + 7) (0 : Int32).toNatClampNeg (o + 7) (0 : Int32).toNatClampNeg (30 : Int32).toNatClampNeg) (fun S_6 => xgd (¬ (0 : Int32) < 0 ∧ ¬ (0 : Int32) < 0 ∧ ¬ (6 : Int32) < 0 ∧ (0 : Int32).toNatClampNeg + (6 : Int32).toNatClampNeg ≤ 6 ∧ (0 : Int32).toNatClampNeg + (6 : Int32).toNatClampNeg ≤ 6) (xbd (xcpi S_6 (o1 + 8) (0 : Int32).toNatClampNeg (o + 8) (0 : Int32).toNatClampNeg (6 : Int32).toNatClampNeg) (fun S_7 => xbd (S_7.1 o1 11) (fun v_8 => xbd (xsi S_7 o 11 v_8) (fun S_9 => some (S_9, ())))))))))))))))))
def f_X4_takeStack (o : Nat) (o1 : Nat) (S : xSt) : Option (xSt × Unit) := f_X4_takeStack_0 o o1 S
def f_X4_takeAll_0 (o : Nat) (o1 : Nat) (S : xSt) : Option (xSt × Unit) :=
  xob (f_X4_takeStack o o1 S) (fun S_1 v_2 => xgd (¬ (0 : Int32) < 0 ∧ ¬ (0 : Int32) < 0 ∧ ¬ (6 : Int32) < 0 ∧ (0 : Int32).toNatClampNeg + (6 : Int32).toNatClampNeg ≤ 6 ∧ (0 : Int32).toNatClampNeg + (6 : Int32).toNatClampNeg ≤ 6) (xbd (xcpi S_1 (o1 + 2) (0 : Int32).toNatClampNeg (o + 2) (0 : Int32).toNatClampNeg (6 : Int32).toNatClampNeg) (fun S_3 => xbd (S_3.1 o1 10) (fun v_4 => xbd (xsi S_3 o 10 v_4) (fun S_5 => some (S_5, ()))))))
def f_X4_takeAll (o : Nat) (o1 : Nat) (S : xSt) : Option (xSt × Unit) := f_X4_takeAll_0 o o1 S
def f_X4_has_28 (o : Nat) (S : xSt) : Option (xSt × Int32) :=
  xgd ((0 : Int32) = 0 ∨ (0 : Int32) = 1) (some (S, (0 : Int32)))
def f_X4_has_0 (o : Nat) (x1 : Int32) (S : xSt) : Option (xSt × Int32) :=
  if x1 < 0 then (f_X4_has_28 o S) else (if (30 : Int32) ≤ x1 then (f_X4_has_28 o S) else (xgd (¬ (5 : Int32) = 0) (xbd (x1 - x1 / (5 : Int32) * (5 : Int32)) (fun v_3 => xgd (¬ (5 : Int32) = 0) (xbd (x1 / (5 : Int32)) (fun v_4 => xgd (xin v_4 6) (xbd (S.1 (o + 1) v_4.toNatClampNeg) (fun v_5 => if v_5 ≤ v_3 then (f_X4_has_28 o S) else (xgd ((1 : Int32) = 0 ∨ (1 : Int32) = 1) (some (S, (1 : Int32))))))))))))
def f_X4_has (o : Nat) (S : xSt) (x1 : Int32) : Option (xSt × Int32) := f_X4_has_0 o x1 S
def f_X4_isBeyond_20 (o : Nat) (S : xSt) : Option (xSt × Int32) :=
  xgd ((1 : Int32) = 0 ∨ (1 : Int32) = 1) (some (S, (1 : Int32)))
def f_X4_isBeyond_0 (o : Nat) (x1 : Int32) (x2 : Int32) (S : xSt) : Option (xSt × Int32) :=
  if x1 < 0 then (f_X4_isBeyond_20 o S) else (if (6 : Int32) ≤ x1 then (f_X4_isBeyond_20 o S) else (xgd (xin x1 6) (xbd (S.1 (o + 1) x1.toNatClampNeg) (fun v_3 => if x2 < v_3 then (xgd ((0 : Int32) = 0 ∨ (0 : Int32) = 1) (some (S, (0 : Int32)))) else (f_X4_isBeyond_20 o S)))))
def f_X4_isBeyond (o : Nat) (S : xSt) (x1 : Int32) (x2 : Int32) : Option (xSt × Int32) := f_X4_isBeyond_0 o x1 x2 S
def f_X4_airOf_46 (o : Nat) (x2 : Int32) (x3 : Int32) (x4 : Int32) (S : xSt) : Option (xSt × Int32) :=
  xbd (x2 + (1 : Int32)) (fun v_1 => xob (f_X4_isBeyond o S v_1 x3) (fun S_2 v_3 => if v_3 = 0 then (some (S_2, x4)) else (xbd (x4 + (1 : Int32)) (fun v_5 => some (S_2, v_5)))))
def f_X4_airOf_32 (o : Nat) (x2 : Int32) (x3 : Int32) (x4 : Int32) (S : xSt) : Option (xSt × Int32) :=
  xbd (x2 - (1 : Int32)) (fun v_1 => xob (f_X4_isBeyond o S v_1 x3) (fun S_2 v_3 => if v_3 = 0 then (f_X4_airOf_46 o x2 x3 x4 S_2) else (xbd (x4 + (1 : Int32)) (fun v_5 => f_X4_airOf_46 o x2 x3 v_5 S_2))))
def f_X4_airOf_0 (o : Nat) (x1 : Int32) (S : xSt) : Option (xSt × Int32) :=
  xgd (¬ (5 : Int32) = 0) (xbd (x1 / (5 : Int32)) (fun v_1 => xgd (¬ (5 : Int32) = 0) (xbd (x1 - x1 / (5 : Int32) * (5 : Int32)) (fun v_2 => xgd (xin v_1 6) (xbd (S.1 (o + 2) v_1.toNatClampNeg) (fun v_3 => xbd ((2 : Int32) * v_3) (fun v_4 => xbd (v_2 + (1 : Int32)) (fun v_5 => xob (f_X4_isBeyond o S v_1 v_5) (fun S_6 v_7 => if v_7 = 0 then (f_X4_airOf_32 o v_1 v_2 v_4 S_6) else (xbd (v_4 + (1 : Int32)) (fun v_9 => f_X4_airOf_32 o v_1 v_2 v_9 S_6)))))))))))
def f_X4_airOf (o : Nat) (S : xSt) (x1 : Int32) : Option (xSt × Int32) := f_X4_airOf_0 o x1 S
def f_X4_meanBeside_115 (o : Nat) (x4 : Int32) (x5 : Int32) (S : xSt) : Option (xSt × Int32) :=
  if ¬ x5 = 0 then (xgd (¬ x5 = 0) (xbd (x4 / x5) (fun v_2 => some (S, v_2)))) else (some (S, (20 : Int32)))
def f_X4_meanBeside_88 (o : Nat) (x1 : Int32) (x2 : Int32) (x3 : Int32) (x4 : Int32) (x5 : Int32) (S : xSt) : Option (xSt × Int32) :=
  xbd (x2 + (1 : Int32)) (fun v_1 => xob (f_X4_isBeyond o S v_1 x3) (fun S_2 v_3 => if ¬ v_3 = 0 then (f_X4_meanBeside_115 o x4 x5 S_2) else (xbd (x1 + (5 : Int32)) (fun v_5 => xgd (xin v_5 30) (xbd (S_2.1 (o + 4) v_5.toNatClampNeg) (fun v_6 => xbd (x4 + v_6) (fun v_7 => xbd (x5 + (1 : Int32)) (fun v_8 => f_X4_meanBeside_115 o v_7 v_8 S_2))))))))
def f_X4_meanBeside_61 (o : Nat) (x1 : Int32) (x2 : Int32) (x3 : Int32) (x4 : Int32) (x5 : Int32) (S : xSt) : Option (xSt × Int32) :=
  xbd (x2 - (1 : Int32)) (fun v_1 => xob (f_X4_isBeyond o S v_1 x3) (fun S_2 v_3 => if ¬ v_3 = 0 then (f_X4_meanBeside_88 o x1 x2 x3 x4 x5 S_2) else (xbd (x1 - (5 : Int32)) (fun v_5 => xgd (xin v_5 30) (xbd (S_2.1 (o + 4) v_5.toNatClampNeg) (fun v_6 => xbd (x4 + v_6) (fun v_7 => xbd (x5 + (1 : Int32)) (fun v_8 => f_X4_meanBeside_88 o x1 x2 x3 v_7 v_8 S_2))))))))
def f_X4_meanBeside_34 (o : Nat) (x1 : Int32) (x2 : Int32) (x3 : Int32) (x4 : Int32) (x5 : Int32) (S : xSt) : Option (xSt × Int32) :=
  xbd (x3 + (1 : Int32)) (fun v_1 => xob (f_X4_isBeyond o S x2 v_1) (fun S_2 v_3 => if ¬ v_3 = 0 then (f_X4_meanBeside_61 o x1 x2 x3 x4 x5 S_2) else (xbd (x1 + (1 : Int32)) (fun v_5 => xgd (xin v_5 30) (xbd (S_2.1 (o + 4) v_5.toNatClampNeg) (fun v_6 => xbd (x4 + v_6) (fun v_7 => xbd (x5 + (1 : Int32)) (fun v_8 => f_X4_meanBeside_61 o x1 x2 x3 v_7 v_8 S_2))))))))
def f_X4_meanBeside_0 (o : Nat) (x1 : Int32) (S : xSt) : Option (xSt × Int32) :=
  xgd (¬ (5 : Int32) = 0) (xbd (x1 / (5 : Int32)) (fun v_1 => xgd (¬ (5 : Int32) = 0) (xbd (x1 - x1 / (5 : Int32) * (5 : Int32)) (fun v_2 => if v_2 ≤ 0 then (f_X4_meanBeside_34 o x1 v_1 v_2 ((0 : Int32)) ((0 : Int32)) S) else (xbd (x1 - (1 : Int32)) (fun v_4 => xgd (xin v_4 30) (xbd (S.1 (o + 4) v_4.toNatClampNeg) (fun v_5 => xbd ((0 : Int32) + v_5) (fun v_6 => xbd ((0 : Int32) + (1 : Int32)) (fun v_7 => f_X4_meanBeside_34 o x1 v_1 v_2 v_6 v_7 S))))))))))
def f_X4_meanBeside (o : Nat) (S : xSt) (x1 : Int32) : Option (xSt × Int32) := f_X4_meanBeside_0 o x1 S
def f_X5_held_0 (x0 : Int32) (S : xSt) : Option (xSt × Int32) :=
  xbd (if x0 < (20 : Int32) then x0 else (20 : Int32)) (fun v_1 => xbd (if (-20 : Int32) < v_1 then v_1 else (-20 : Int32)) (fun v_2 => some (S, v_2)))
def f_X5_held (S : xSt) (x0 : Int32) : Option (xSt × Int32) := f_X5_held_0 x0 S
def f_X5_run_426 (x2 : Int32) (x3 : Int32) (x4 : Int32) (S : xSt) : Option ((xSt × Int32 × Int32) ⊕ (xSt × Int32)) :=
  xbd (x4 + (1 : Int32)) (fun v_1 => some (.inl (S, x3, v_1)))
def f_X5_run_95 (x2 : Int32) (x3 : Int32) (x4 : Int32) (y1 : Int32) (y2 : Int32) (S : xSt) : Option ((xSt × Int32 × Int32) ⊕ (xSt × Int32)) :=
  xgd (xin y1 64) (xbd (xsi S 14 y1.toNatClampNeg y2) (fun S_1 => f_X5_run_426 x2 x3 x4 S_1))
def f_X5_run_52 (x2 : Int32) (x3 : Int32) (x4 : Int32) (x5 : Int32) (S : xSt) : Option ((xSt × Int32 × Int32) ⊕ (xSt × Int32)) :=
  xbd (x3 + (1 : Int32)) (fun v_1 => xbd (v_1 &&& (63 : Int32)) (fun v_2 => if ¬ x5 = (35 : Int32) then (xgd (xin x4 120) (xbd (S.1 10 x4.toNatClampNeg) (fun v_4 => xbd (v_4 &&& (7 : Int32)) (fun v_5 => xgd (xin v_5 8) (xbd (S.1 13 v_5.toNatClampNeg) (fun v_6 => f_X5_run_95 x2 v_1 x4 v_2 v_6 S)))))) else (xgd (xin x4 120) (xbd (S.1 10 x4.toNatClampNeg) (fun v_7 => f_X5_run_95 x2 v_1 x4 v_2 v_7 S)))))
def f_X5_run_144 (x2 : Int32) (x3 : Int32) (x4 : Int32) (y1 : Int32) (y2 : Int32) (S : xSt) : Option ((xSt × Int32 × Int32) ⊕ (xSt × Int32)) :=
  xgd (xin y1 64) (xbd (xsi S 14 y1.toNatClampNeg y2) (fun S_1 => f_X5_run_426 x2 x3 x4 S_1))
def f_X5_run_113 (x2 : Int32) (x3 : Int32) (x4 : Int32) (x5 : Int32) (x6 : Int32) (S : xSt) : Option ((xSt × Int32 × Int32) ⊕ (xSt × Int32)) :=
  xbd (x3 &&& (63 : Int32)) (fun v_1 => if ¬ x5 = (126 : Int32) then (if ¬ x6 = 0 then (f_X5_run_144 x2 x3 x4 v_1 ((0 : Int32)) S) else (f_X5_run_144 x2 x3 x4 v_1 ((1 : Int32)) S)) else (xbd (-x6) (fun v_4 => f_X5_run_144 x2 x3 x4 v_1 v_4 S)))
def f_X5_run_415 (x2 : Int32) (x3 : Int32) (x4 : Int32) (x8 : Int32) (S : xSt) : Option ((xSt × Int32 × Int32) ⊕ (xSt × Int32)) :=
  xbd (x3 &&& (63 : Int32)) (fun v_1 => xgd (xin v_1 64) (xbd (xsi S 14 v_1.toNatClampNeg x8) (fun S_2 => f_X5_run_426 x2 x3 x4 S_2)))
def f_X5_run_271 (x2 : Int32) (x3 : Int32) (x4 : Int32) (y0 : Int32) (S : xSt) : Option ((xSt × Int32 × Int32) ⊕ (xSt × Int32)) :=
  f_X5_run_415 x2 x3 x4 y0 S
def f_X5_run_266 (x2 : Int32) (x3 : Int32) (x4 : Int32) (S : xSt) : Option ((xSt × Int32 × Int32) ⊕ (xSt × Int32)) :=
  f_X5_run_271 x2 x3 x4 ((1 : Int32)) S
def f_X5_run_291 (x2 : Int32) (x3 : Int32) (x4 : Int32) (y0 : Int32) (S : xSt) : Option ((xSt × Int32 × Int32) ⊕ (xSt × Int32)) :=
  f_X5_run_415 x2 x3 x4 y0 S
def f_X5_run_290 (x2 : Int32) (x3 : Int32) (x4 : Int32) (S : xSt) : Option ((xSt × Int32 × Int32) ⊕ (xSt × Int32)) :=
  f_X5_run_291 x2 x3 x4 ((0 : Int32)) S
def f_X5_run_308 (x2 : Int32) (x3 : Int32) (x4 : Int32) (y0 : Int32) (S : xSt) : Option ((xSt × Int32 × Int32) ⊕ (xSt × Int32)) :=
  f_X5_run_415 x2 x3 x4 y0 S
def f_X5_run_325 (x2 : Int32) (x3 : Int32) (x4 : Int32) (y0 : Int32) (S : xSt) : Option ((xSt × Int32 × Int32) ⊕ (xSt × Int32)) :=
  f_X5_run_415 x2 x3 x4 y0 S
def f_X5_run_342 (x2 : Int32) (x3 : Int32) (x4 : Int32) (y0 : Int32) (S : xSt) : Option ((xSt × Int32 × Int32) ⊕ (xSt × Int32)) :=
  f_X5_run_415 x2 x3 x4 y0 S
def f_X5_run_391 (x2 : Int32) (x3 : Int32) (x4 : Int32) (y0 : Int32) (S : xSt) : Option ((xSt × Int32 × Int32) ⊕ (xSt × Int32)) :=
  f_X5_run_415 x2 x3 x4 y0 S
def f_X5_run_410 (x2 : Int32) (x3 : Int32) (x4 : Int32) (y0 : Int32) (S : xSt) : Option ((xSt × Int32 × Int32) ⊕ (xSt × Int32)) :=
  f_X5_run_415 x2 x3 x4 y0 S
def f_X5_run_432 (S : xSt) : Option (xSt × Int32) :=
  xgd (xin (0 : Int32) 64) (xbd (S.1 14 (0 : Int32).toNatClampNeg) (fun v_1 => some (S, v_1)))
def f_X5_run_5 (x2 : Int32) (S : xSt) (x3 : Int32) (x4 : Int32) : Option ((xSt × Int32 × Int32) ⊕ (xSt × Int32)) :=
  if x2 ≤ x4 then (xmr (f_X5_run_432 S)) else (if (120 : Int32) ≤ x4 then (xmr (f_X5_run_432 S)) else (xgd (xin x4 120) (xbd (S.1 9 x4.toNatClampNeg) (fun v_3 => xbd (x3 &&& (63 : Int32)) (fun v_4 => xgd (xin v_4 64) (xbd (S.1 14 v_4.toNatClampNeg) (fun v_5 => if v_3 = (35 : Int32) then (f_X5_run_52 x2 x3 x4 v_3 S) else (if ¬ v_3 = (64 : Int32) then (if v_3 = (126 : Int32) then (f_X5_run_113 x2 x3 x4 v_3 v_5 S) else (if ¬ v_3 = (33 : Int32) then (xbd (x3 + (-1 : Int32)) (fun v_10 => xbd (v_10 &&& (63 : Int32)) (fun v_11 => xgd (xin v_11 64) (xbd (S.1 14 v_11.toNatClampNeg) (fun v_12 => if v_3 = (37 : Int32) then (if ¬ v_5 = 0 then (xgd (¬ v_5 = 0) (xbd (v_12 - v_12 / v_5 * v_5) (fun v_15 => f_X5_run_410 x2 v_10 x4 v_15 S))) else (f_X5_run_410 x2 v_10 x4 ((0 : Int32)) S)) else (if v_3 = (38 : Int32) then (if v_12 = 0 then (f_X5_run_290 x2 v_10 x4 S) else (if v_5 = 0 then (f_X5_run_290 x2 v_10 x4 S) else (f_X5_run_291 x2 v_10 x4 ((1 : Int32)) S))) else (if v_3 = (42 : Int32) then (xbd (v_12 * v_5) (fun v_20 => f_X5_run_415 x2 v_10 x4 v_20 S)) else (if v_3 = (43 : Int32) then (xbd (v_12 + v_5) (fun v_22 => f_X5_run_415 x2 v_10 x4 v_22 S)) else (if v_3 = (45 : Int32) then (xbd (v_12 - v_5) (fun v_24 => f_X5_run_415 x2 v_10 x4 v_24 S)) else (if v_3 = (47 : Int32) then (if ¬ v_5 = 0 then (xgd (¬ v_5 = 0) (xbd (v_12 / v_5) (fun v_27 => f_X5_run_391 x2 v_10 x4 v_27 S))) else (f_X5_run_391 x2 v_10 x4 ((0 : Int32)) S)) else (if v_3 = (60 : Int32) then (if v_5 ≤ v_12 then (f_X5_run_308 x2 v_10 x4 ((0 : Int32)) S) else (f_X5_run_308 x2 v_10 x4 ((1 : Int32)) S)) else (if v_3 = (61 : Int32) then (if ¬ v_12 = v_5 then (f_X5_run_325 x2 v_10 x4 ((0 : Int32)) S) else (f_X5_run_325 x2 v_10 x4 ((1 : Int32)) S)) else (if v_3 = (62 : Int32) then (if v_12 ≤ v_5 then (f_X5_run_342 x2 v_10 x4 ((0 : Int32)) S) else (f_X5_run_342 x2 v_10 x4 ((1 : Int32)) S)) else (if v_3 = (124 : Int32) then (if ¬ v_12 = 0 then (f_X5_run_266 x2 v_10 x4 S) else (if v_5 = 0 then (f_X5_run_271 x2 v_10 x4 ((0 : Int32)) S) else (f_X5_run_266 x2 v_10 x4 S))) else (f_X5_run_415 x2 v_10 x4 ((0 : Int32)) S))))))))))))))) else (f_X5_run_113 x2 x3 x4 v_3 v_5 S))) else (f_X5_run_52 x2 x3 x4 v_3 S)))))))))
def f_X5_run_0 (x1 : Int32) (x2 : Int32) (S : xSt) : Option (xSt × Int32) :=
  xlp (fun q : (xSt × Int32 × Int32) => f_X5_run_5 x2 q.1 q.2.1 q.2.2) 5000 (S, (-1 : Int32), x1)
def f_X5_run (S : xSt) (x1 : Int32) (x2 : Int32) : Option (xSt × Int32) := f_X5_run_0 x1 x2 S
def f_X5_worked_33 (x2 : Int32) (x3 : Int32) (S : xSt) : Option (xSt × Int32) :=
  xgd (xin x2 120) (xbd (S.1 12 x2.toNatClampNeg) (fun v_1 => xob (f_X5_run S x3 v_1) (fun S_2 v_3 => some (S_2, v_3))))
def f_X5_worked_4 (S : xSt) (x1 : Int32) (x2 : Int32) : Option ((xSt × Int32 × Int32) ⊕ (xSt × Int32)) :=
  xbd (S.1 8 0) (fun v_1 => if v_1 ≤ x2 then (some (.inr (S, (0 : Int32)))) else (xgd (xin x2 120) (xbd (S.1 11 x2.toNatClampNeg) (fun v_3 => if v_3 = x1 then (xmr (f_X5_worked_33 x2 v_3 S)) else (xob (f_X5_run S x1 v_3) (fun S_5 v_6 => if v_6 = 0 then (xgd (xin x2 120) (xbd (S_5.1 12 x2.toNatClampNeg) (fun v_8 => xbd (x2 + (1 : Int32)) (fun v_9 => some (.inl (S_5, v_8, v_9)))))) else (xmr (f_X5_worked_33 x2 v_3 S_5))))))))
def f_X5_worked_0 (S : xSt) : Option (xSt × Int32) :=
  xlp (fun q : (xSt × Int32 × Int32) => f_X5_worked_4 q.1 q.2.1 q.2.2) 5000 (S, (0 : Int32), (0 : Int32))
def f_X5_worked (S : xSt) : Option (xSt × Int32) := f_X5_worked_0 S
def f_X5_gives_204 (o1 : Nat) (x10 : Int32) (S : xSt) : Option (xSt × Int32) :=
  xgd (xin x10 2048) (xbd (S.1 15 x10.toNatClampNeg) (fun v_1 => xbd (v_1 &&& (63 : Int32)) (fun v_2 => xbd (v_2 - (20 : Int32)) (fun v_3 => some (S, v_3)))))
def f_X5_gives_0 (o1 : Nat) (x2 : Int32) (S : xSt) : Option (xSt × Int32) :=
  xgd (xin x2 30) (xbd (S.1 (o1 + 3) x2.toNatClampNeg) (fun v_1 => xgd (xin x2 30) (xbd (S.1 (o1 + 4) x2.toNatClampNeg) (fun v_2 => xgd (xin x2 30) (xbd (S.1 (o1 + 6) x2.toNatClampNeg) (fun v_3 => xob (f_X4_airOf o1 S x2) (fun S_4 v_5 => xob (f_X4_meanBeside o1 S_4 x2) (fun S_6 v_7 => xgd (¬ (5 : Int32) = 0) (xbd (x2 - x2 / (5 : Int32) * (5 : Int32)) (fun v_8 => xbd (S_6.1 8 0) (fun v_9 => if ¬ v_9 = 0 then (xbd (v_1 * (100 : Int32)) (fun v_11 => xbd (v_11 + v_2) (fun v_12 => xbd (v_12 * (100 : Int32)) (fun v_13 => xbd (v_13 + v_7) (fun v_14 => xbd (v_14 * (6 : Int32)) (fun v_15 => xbd (v_15 + v_5) (fun v_16 => xbd (v_16 * (2 : Int32)) (fun v_17 => xbd (v_17 + v_3) (fun v_18 => xbd (v_18 * (5 : Int32)) (fun v_19 => xbd ((1 : Int32) + v_19) (fun v_20 => xbd (v_20 + v_8) (fun v_21 => xbd (v_21 * (-1640531535 : Int32)) (fun v_22 => xbd ((v_22.toUInt32 >>> ((21 : Int32).toUInt32 &&& Int32.toUInt32 31)).toInt32) (fun v_23 => xgd (¬ (2048 : Int32) = 0) (xbd (v_23 - v_23 / (2048 : Int32) * (2048 : Int32)) (fun v_24 => xgd (xin v_24 2048) (xbd (S_6.1 15 v_24.toNatClampNeg) (fun v_25 => xbd (v_25 >>> ((6 : Int32) &&& 31)) (fun v_26 => if v_26 = v_21 then (f_X5_gives_204 o1 v_24 S_6) else (xgd (xin (0 : Int32) 8) (xbd (xsi S_6 13 (0 : Int32).toNatClampNeg v_1) (fun S_28 => xgd (xin (1 : Int32) 8) (xbd (xsi S_28 13 (1 : Int32).toNatClampNeg v_2) (fun S_29 => xgd (xin (2 : Int32) 8) (xbd (xsi S_29 13 (2 : Int32).toNatClampNeg v_5) (fun S_30 => xgd (xin (3 : Int32) 8) (xbd (xsi S_30 13 (3 : Int32).toNatClampNeg v_3) (fun S_31 => xgd (xin (4 : Int32) 8) (xbd (xsi S_31 13 (4 : Int32).toNatClampNeg v_7) (fun S_32 => xgd (xin (5 : Int32) 8) (xbd (xsi S_32 13 (5 : Int32).toNatClampNeg v_8) (fun S_33 => xbd (v_21 <<< ((6 : Int32) &&& 31)) (fun v_34 => xob (f_X5_worked S_33) (fun S_35 v_36 => xob (f_X5_held S_35 v_36) (fun S_37 v_38 => xbd (v_38 + (20 : Int32)) (fun v_39 => xbd (v_34 ||| v_39) (fun v_40 => xgd (xin v_24 2048) (xbd (xsi S_37 15 v_24.toNatClampNeg v_40) (fun S_41 => f_X5_gives_204 o1 v_24 S_41))))))))))))))))))))))))))))))))))))))) else (xbd ((2 : Int32) * v_1) (fun v_42 => xbd (v_42 - v_5) (fun v_43 => xbd ((4 : Int32) * v_3) (fun v_44 => xbd (v_43 - v_44) (fun v_45 => xbd (v_7 - v_2) (fun v_46 => xgd (¬ (4 : Int32) = 0) (xbd (v_46 / (4 : Int32)) (fun v_47 => xbd (v_45 + v_47) (fun v_48 => xob (f_X5_held S_6 v_48) (fun S_49 v_50 => some (S_49, v_50))))))))))))))))))))))
def f_X5_gives (o1 : Nat) (S : xSt) (x2 : Int32) : Option (xSt × Int32) := f_X5_gives_0 o1 x2 S
def f_X4_warm_55 (o : Nat) (x1 : Int32) (x3 : Int32) (S : xSt) : Option (xSt × Unit) :=
  if x3 < (50 : Int32) then (some (S, ())) else (xgd (xin x1 30) (xbd (S.1 (o + 3) x1.toNatClampNeg) (fun v_2 => xbd (v_2 - (1 : Int32)) (fun v_3 => xbd (if (0 : Int32) < v_3 then v_3 else (0 : Int32)) (fun v_4 => xgd (xin x1 30) (xbd (xsi S (o + 3) x1.toNatClampNeg v_4) (fun S_5 => some (S_5, ()))))))))
def f_X4_warm_0 (o : Nat) (x1 : Int32) (x2 : Int32) (S : xSt) : Option (xSt × Unit) :=
  xgd (xin (1 : Int32) 8) (xbd (xt_MOST (1 : Int32).toNatClampNeg) (fun v_1 => xgd (xin x1 30) (xbd (S.1 (o + 4) x1.toNatClampNeg) (fun v_2 => xbd (v_2 + x2) (fun v_3 => xbd (if v_3 < v_1 then v_3 else v_1) (fun v_4 => xbd (if (0 : Int32) < v_4 then v_4 else (0 : Int32)) (fun v_5 => xgd (xin x1 30) (xbd (xsi S (o + 4) x1.toNatClampNeg v_5) (fun S_6 => if v_5 < (40 : Int32) then (f_X4_warm_55 o x1 v_5 S_6) else (xgd (xin x1 30) (xbd (S_6.1 (o + 5) x1.toNatClampNeg) (fun v_8 => xgd (¬ (20 : Int32) = 0) (xbd (v_5 / (20 : Int32)) (fun v_9 => xbd (v_8 - v_9) (fun v_10 => xbd (if (0 : Int32) < v_10 then v_10 else (0 : Int32)) (fun v_11 => xgd (xin x1 30) (xbd (xsi S_6 (o + 5) x1.toNatClampNeg v_11) (fun S_12 => f_X4_warm_55 o x1 v_5 S_12))))))))))))))))))
def f_X4_warm (o : Nat) (S : xSt) (x1 : Int32) (x2 : Int32) : Option (xSt × Unit) := f_X4_warm_0 o x1 x2 S
def f_X4_passDay_31 (o : Nat) (x1 : Int32) (S : xSt) : Option ((xSt × Int32) ⊕ (xSt × Unit)) :=
  xbd (x1 + (1 : Int32)) (fun v_1 => some (.inl (S, v_1)))
def f_X4_passDay_64 (o : Nat) (x1 : Int32) (S : xSt) : Option ((xSt × Int32) ⊕ (xSt × Unit)) :=
  xbd (x1 + (1 : Int32)) (fun v_1 => some (.inl (S, v_1)))
def f_X4_passDay_70 (o : Nat) (S : xSt) : Option (xSt × Unit) :=
  xgd (xin (7 : Int32) 8) (xbd (xt_MOST (7 : Int32).toNatClampNeg) (fun v_1 => xbd (S.1 o 11) (fun v_2 => xbd (v_2 + (1 : Int32)) (fun v_3 => xbd (if v_3 < v_1 then v_3 else v_1) (fun v_4 => xbd (xsi S o 11 v_4) (fun S_5 => some (S_5, ())))))))
def f_X4_passDay_39 (o : Nat) (S : xSt) (x1 : Int32) : Option ((xSt × Int32) ⊕ (xSt × Unit)) :=
  if (30 : Int32) ≤ x1 then (xmr (f_X4_passDay_70 o S)) else (xob (f_X4_has o S x1) (fun S_2 v_3 => if v_3 = 0 then (f_X4_passDay_64 o x1 S_2) else (xgd (xin x1 30) (xbd (S_2.1 (o + 9) x1.toNatClampNeg) (fun v_5 => xob (f_X4_warm o S_2 x1 v_5) (fun S_6 v_7 => f_X4_passDay_64 o x1 S_6))))))
def f_X4_passDay_37 (o : Nat) (S : xSt) : Option (xSt × Unit) :=
  xlp (fun q : (xSt × Int32) => f_X4_passDay_39 o q.1 q.2) 5000 (S, (0 : Int32))
def f_X4_passDay_2 (o : Nat) (S : xSt) (x1 : Int32) : Option ((xSt × Int32) ⊕ (xSt × Unit)) :=
  if (30 : Int32) ≤ x1 then (xmr (f_X4_passDay_37 o S)) else (xob (f_X4_has o S x1) (fun S_2 v_3 => if v_3 = 0 then (f_X4_passDay_31 o x1 S_2) else (xob (f_X5_gives o S_2 x1) (fun S_5 v_6 => xgd (xin x1 30) (xbd (xsi S_5 (o + 9) x1.toNatClampNeg v_6) (fun S_7 => f_X4_passDay_31 o x1 S_7))))))
def f_X4_passDay_0 (o : Nat) (S : xSt) : Option (xSt × Unit) :=
  xlp (fun q : (xSt × Int32) => f_X4_passDay_2 o q.1 q.2) 5000 (S, (0 : Int32))
def f_X4_passDay (o : Nat) (S : xSt) : Option (xSt × Unit) := f_X4_passDay_0 o S
def f_X1_firstWrong_62 (o1 : Nat) (x2 : Int32) (x3 : Int32) (S : xSt) : Option ((xSt × Int32) ⊕ (xSt × Int32)) :=
  xbd (x3 + (1 : Int32)) (fun v_1 => some (.inl (S, v_1)))
def f_X1_firstWrong_27 (o1 : Nat) (x2 : Int32) (x3 : Int32) (S : xSt) : Option ((xSt × Int32) ⊕ (xSt × Int32)) :=
  xgd (xin x3 60) (xbd (S.2 (o1 + 1) x3.toNatClampNeg) (fun v_1 => xbd (lg_cmp v_1 (100 : Int64)) (fun v_2 => if v_2 = 0 then (f_X1_firstWrong_62 o1 x2 x3 S) else (xgd (xin x2 30) (xbd (S.1 (36 + 4) x2.toNatClampNeg) (fun v_4 => xbd (v_4.toInt64) (fun v_5 => xbd (lg_cmp v_1 v_5) (fun v_6 => if v_6 = 0 then (f_X1_firstWrong_62 o1 x2 x3 S) else (some (.inr (S, x3)))))))))))
def f_X1_firstWrong_2 (o1 : Nat) (x2 : Int32) (S : xSt) (x3 : Int32) : Option ((xSt × Int32) ⊕ (xSt × Int32)) :=
  xbd (S.1 o1 3) (fun v_1 => if v_1 ≤ x3 then (some (.inr (S, (-2 : Int32)))) else (if (41 : Int32) ≤ x3 then (some (.inr (S, (-2 : Int32)))) else (if x3 ≤ 0 then (f_X1_firstWrong_27 o1 x2 x3 S) else (xob (f_X4_passDay 36 S) (fun S_5 v_6 => f_X1_firstWrong_27 o1 x2 x3 S_5)))))
def f_X1_firstWrong_0 (o1 : Nat) (x2 : Int32) (S : xSt) : Option (xSt × Int32) :=
  xlp (fun q : (xSt × Int32) => f_X1_firstWrong_2 o1 x2 q.1 q.2) 5000 (S, (0 : Int32))
def f_X1_firstWrong (o1 : Nat) (S : xSt) (x2 : Int32) : Option (xSt × Int32) := f_X1_firstWrong_0 o1 x2 S
def f_X1_judged_0 (o1 : Nat) (x2 : Int32) (S : xSt) : Option (xSt × Int32) :=
  xob (f_X4_takeAll 36 16 S) (fun S_1 v_2 => xob (f_X1_firstWrong o1 S_1 x2) (fun S_3 v_4 => some (S_3, v_4)))
def f_X1_judged (o1 : Nat) (S : xSt) (x2 : Int32) : Option (xSt × Int32) := f_X1_judged_0 o1 x2 S
def f_X4_tell_0 (o : Nat) (x1 : Int32) (x2 : Int32) (x3 : Int32) (S : xSt) : Option (xSt × Unit) :=
  if x2 = (0 : Int32) then (xgd (xin x1 30) (xbd (xsi S (o + 3) x1.toNatClampNeg x3) (fun S_2 => some (S_2, ())))) else (if x2 = (1 : Int32) then (xgd (xin x1 30) (xbd (xsi S (o + 4) x1.toNatClampNeg x3) (fun S_4 => some (S_4, ())))) else (if x2 = (2 : Int32) then (xgd (xin x1 30) (xbd (xsi S (o + 5) x1.toNatClampNeg x3) (fun S_6 => some (S_6, ())))) else (if x2 = (3 : Int32) then (xgd (xin x1 30) (xbd (xsi S (o + 6) x1.toNatClampNeg x3) (fun S_8 => some (S_8, ())))) else (if x2 = (4 : Int32) then (xgd (xin x1 30) (xbd (xsi S (o + 7) x1.toNatClampNeg x3) (fun S_10 => some (S_10, ())))) else (if x2 = (5 : Int32) then (xgd (xin x1 6) (xbd (xsi S (o + 2) x1.toNatClampNeg x3) (fun S_12 => some (S_12, ())))) else (if x2 = (6 : Int32) then (xbd (xsi S o 10 x3) (fun S_14 => some (S_14, ()))) else (xbd (xsi S o 11 x3) (fun S_15 => some (S_15, ())))))))))
def f_X4_tell (o : Nat) (S : xSt) (x1 : Int32) (x2 : Int32) (x3 : Int32) : Option (xSt × Unit) := f_X4_tell_0 o x1 x2 x3 S
def f_X1_fitting_64 (o1 : Nat) (x2 : Int32) (x3 : Int32) (x4 : Int32) (x5 : Int32) (S : xSt) : Option ((xSt × Int32 × Int32) ⊕ (xSt × Int32)) :=
  xbd (x5 + (1 : Int32)) (fun v_1 => some (.inl (S, x4, v_1)))
def f_X1_fitting_6 (o1 : Nat) (x2 : Int32) (x3 : Int32) (S : xSt) (x4 : Int32) (x5 : Int32) : Option ((xSt × Int32 × Int32) ⊕ (xSt × Int32)) :=
  xgd (xin x3 8) (xbd (xt_MOST x3.toNatClampNeg) (fun v_1 => if v_1 < x5 then (some (.inr (S, x4))) else (xob (f_X4_takeAll 36 16 S) (fun S_3 v_4 => xgd (¬ (100 : Int32) = 0) (xbd (x2 - x2 / (100 : Int32) * (100 : Int32)) (fun v_5 => xob (f_X4_tell 36 S_3 v_5 x3 x5) (fun S_6 v_7 => xgd (¬ (100 : Int32) = 0) (xbd (x2 / (100 : Int32)) (fun v_8 => xob (f_X1_firstWrong o1 S_6 v_8) (fun S_9 v_10 => if ¬ v_10 = (-2 : Int32) then (f_X1_fitting_64 o1 x2 x3 x4 x5 S_9) else (xbd ((1 : Int32) <<< (x5 &&& 31)) (fun v_12 => xbd (x4 ||| v_12) (fun v_13 => f_X1_fitting_64 o1 x2 x3 v_13 x5 S_9)))))))))))))
def f_X1_fitting_0 (o1 : Nat) (x2 : Int32) (x3 : Int32) (S : xSt) : Option (xSt × Int32) :=
  xlp (fun q : (xSt × Int32 × Int32) => f_X1_fitting_6 o1 x2 x3 q.1 q.2.1 q.2.2) 5000 (S, (0 : Int32), (0 : Int32))
def f_X1_fitting (o1 : Nat) (S : xSt) (x2 : Int32) (x3 : Int32) : Option (xSt × Int32) := f_X1_fitting_0 o1 x2 x3 S
def f_X2_forgetFirst_0 (S : xSt) : Option (xSt × Unit) :=
  xgd (¬ (1 : Int32) < 0 ∧ ¬ (0 : Int32) < 0 ∧ ¬ (39 : Int32) < 0 ∧ (1 : Int32).toNatClampNeg + (39 : Int32).toNatClampNeg ≤ 40 ∧ (0 : Int32).toNatClampNeg + (39 : Int32).toNatClampNeg ≤ 40) (xbd (xcpi S 97 (1 : Int32).toNatClampNeg 97 (0 : Int32).toNatClampNeg (39 : Int32).toNatClampNeg) (fun S_1 => xgd (¬ (1 : Int32) < 0 ∧ ¬ (0 : Int32) < 0 ∧ ¬ (39 : Int32) < 0 ∧ (1 : Int32).toNatClampNeg + (39 : Int32).toNatClampNeg ≤ 40 ∧ (0 : Int32).toNatClampNeg + (39 : Int32).toNatClampNeg ≤ 40) (xbd (xcpi S_1 98 (1 : Int32).toNatClampNeg 98 (0 : Int32).toNatClampNeg (39 : Int32).toNatClampNeg) (fun S_2 => xgd (¬ (1 : Int32) < 0 ∧ ¬ (0 : Int32) < 0 ∧ ¬ (39 : Int32) < 0 ∧ (1 : Int32).toNatClampNeg + (39 : Int32).toNatClampNeg ≤ 40 ∧ (0 : Int32).toNatClampNeg + (39 : Int32).toNatClampNeg ≤ 40) (xbd (xcpi S_2 99 (1 : Int32).toNatClampNeg 99 (0 : Int32).toNatClampNeg (39 : Int32).toNatClampNeg) (fun S_3 => xgd (¬ (1 : Int32) < 0 ∧ ¬ (0 : Int32) < 0 ∧ ¬ (39 : Int32) < 0 ∧ (1 : Int32).toNatClampNeg + (39 : Int32).toNatClampNeg ≤ 40 ∧ (0 : Int32).toNatClampNeg + (39 : Int32).toNatClampNeg ≤ 40) (xbd (xcpi S_3 100 (1 : Int32).toNatClampNeg 100 (0 : Int32).toNatClampNeg (39 : Int32).toNatClampNeg) (fun S_4 => xbd (xsi S_4 96 4 (39 : Int32)) (fun S_5 => some (S_5, ()))))))))))
def f_X2_forgetFirst (S : xSt) : Option (xSt × Unit) := f_X2_forgetFirst_0 S
def f_X2_add_13 (x1 : Int32) (x2 : Int32) (x3 : Int32) (x4 : Int32) (S : xSt) : Option (xSt × Unit) :=
  xbd (S.1 96 4) (fun v_1 => xgd (xin v_1 40) (xbd (xsi S 97 v_1.toNatClampNeg x1) (fun S_2 => xbd (S_2.1 96 4) (fun v_3 => xgd (xin v_3 40) (xbd (xsi S_2 98 v_3.toNatClampNeg x2) (fun S_4 => xbd (S_4.1 96 4) (fun v_5 => xgd (xin v_5 40) (xbd (xsi S_4 99 v_5.toNatClampNeg x3) (fun S_6 => xbd (S_6.1 96 4) (fun v_7 => xgd (xin v_7 40) (xbd (xsi S_6 100 v_7.toNatClampNeg x4) (fun S_8 => xbd (S_8.1 96 4) (fun v_9 => xbd (v_9 + (1 : Int32)) (fun v_10 => xbd (xsi S_8 96 4 v_10) (fun S_11 => xbd (S_11.1 96 4) (fun v_12 => xbd (xsi S_11 96 5 v_12) (fun S_13 => some (S_13, ()))))))))))))))))))
def f_X2_add_0 (x1 : Int32) (x2 : Int32) (x3 : Int32) (x4 : Int32) (S : xSt) : Option (xSt × Unit) :=
  xbd (S.1 96 4) (fun v_1 => if v_1 < (40 : Int32) then (f_X2_add_13 x1 x2 x3 x4 S) else (xob (f_X2_forgetFirst S) (fun S_3 v_4 => f_X2_add_13 x1 x2 x3 x4 S_3)))
def f_X2_add (S : xSt) (x1 : Int32) (x2 : Int32) (x3 : Int32) (x4 : Int32) : Option (xSt × Unit) := f_X2_add_0 x1 x2 x3 x4 S
def f_X4_cells_4 (o : Nat) (S : xSt) (x1 : Int32) (x2 : Int32) : Option ((xSt × Int32 × Int32) ⊕ (xSt × Int32)) :=
  if (6 : Int32) ≤ x2 then (some (.inr (S, x1))) else (xgd (xin x2 6) (xbd (S.1 (o + 1) x2.toNatClampNeg) (fun v_2 => xbd (x1 + v_2) (fun v_3 => xbd (x2 + (1 : Int32)) (fun v_4 => some (.inl (S, v_3, v_4)))))))
def f_X4_cells_0 (o : Nat) (S : xSt) : Option (xSt × Int32) :=
  xlp (fun q : (xSt × Int32 × Int32) => f_X4_cells_4 o q.1 q.2.1 q.2.2) 5000 (S, (0 : Int32), (0 : Int32))
def f_X4_cells (o : Nat) (S : xSt) : Option (xSt × Int32) := f_X4_cells_0 o S
def f_X4_hottestCell_42 (o : Nat) (x1 : Int32) (x2 : Int32) (S : xSt) : Option ((xSt × Int32 × Int32) ⊕ (xSt × Int32)) :=
  xbd (x2 + (1 : Int32)) (fun v_1 => some (.inl (S, x1, v_1)))
def f_X4_hottestCell_40 (o : Nat) (x2 : Int32) (S : xSt) : Option ((xSt × Int32 × Int32) ⊕ (xSt × Int32)) :=
  f_X4_hottestCell_42 o x2 x2 S
def f_X4_hottestCell_5 (o : Nat) (S : xSt) (x1 : Int32) (x2 : Int32) : Option ((xSt × Int32 × Int32) ⊕ (xSt × Int32)) :=
  if (30 : Int32) ≤ x2 then (some (.inr (S, x1))) else (xob (f_X4_has o S x2) (fun S_2 v_3 => if v_3 = 0 then (f_X4_hottestCell_42 o x1 x2 S_2) else (if x1 = (-2 : Int32) then (f_X4_hottestCell_40 o x2 S_2) else (xgd (xin x2 30) (xbd (S_2.1 (o + 4) x2.toNatClampNeg) (fun v_6 => xgd (xin x1 30) (xbd (S_2.1 (o + 4) x1.toNatClampNeg) (fun v_7 => if v_6 ≤ v_7 then (f_X4_hottestCell_42 o x1 x2 S_2) else (f_X4_hottestCell_40 o x2 S_2)))))))))
def f_X4_hottestCell_0 (o : Nat) (S : xSt) : Option (xSt × Int32) :=
  xlp (fun q : (xSt × Int32 × Int32) => f_X4_hottestCell_5 o q.1 q.2.1 q.2.2) 5000 (S, (-2 : Int32), (0 : Int32))
def f_X4_hottestCell (o : Nat) (S : xSt) : Option (xSt × Int32) := f_X4_hottestCell_0 o S
def f_X4_hottestHeat_0 (o : Nat) (S : xSt) : Option (xSt × Int32) :=
  xob (f_X4_hottestCell o S) (fun S_1 v_2 => if 0 ≤ v_2 then (xgd (xin v_2 30) (xbd (S_1.1 (o + 4) v_2.toNatClampNeg) (fun v_4 => some (S_1, v_4)))) else (some (S_1, (-2 : Int32))))
def f_X4_hottestHeat (o : Nat) (S : xSt) : Option (xSt × Int32) := f_X4_hottestHeat_0 o S
def f_X4_hottestBehind_2 (o : Nat) (x1 : Int32) (S : xSt) (x2 : Int32) : Option ((xSt × Int32) ⊕ (xSt × Int32)) :=
  if x1 ≤ x2 then (xob (f_X4_hottestHeat o S) (fun S_2 v_3 => some (.inr (S_2, v_3)))) else (xob (f_X4_passDay o S) (fun S_4 v_5 => xbd (x2 + (1 : Int32)) (fun v_6 => some (.inl (S_4, v_6)))))
def f_X4_hottestBehind_0 (o : Nat) (x1 : Int32) (S : xSt) : Option (xSt × Int32) :=
  xlp (fun q : (xSt × Int32) => f_X4_hottestBehind_2 o x1 q.1 q.2) 5000 (S, (0 : Int32))
def f_X4_hottestBehind (o : Nat) (S : xSt) (x1 : Int32) : Option (xSt × Int32) := f_X4_hottestBehind_0 o x1 S
def f_X4_turnColumn_2 (o : Nat) (x1 : Int32) (S : xSt) (x2 : Int32) : Option ((xSt × Int32) ⊕ (xSt × Unit)) :=
  xgd (xin x1 6) (xbd (S.1 (o + 1) x1.toNatClampNeg) (fun v_1 => if v_1 ≤ x2 then (some (.inr (S, ()))) else (xbd (x1 * (5 : Int32)) (fun v_3 => xbd (v_3 + x2) (fun v_4 => xgd (xin v_4 30) (xbd (xsi S (o + 4) v_4.toNatClampNeg (20 : Int32)) (fun S_5 => xgd (xin v_4 30) (xbd (S_5.1 (o + 3) v_4.toNatClampNeg) (fun v_6 => xbd (v_6 - (1 : Int32)) (fun v_7 => xbd (if (0 : Int32) < v_7 then v_7 else (0 : Int32)) (fun v_8 => xgd (xin v_4 30) (xbd (xsi S_5 (o + 3) v_4.toNatClampNeg v_8) (fun S_9 => xbd (x2 + (1 : Int32)) (fun v_10 => some (.inl (S_9, v_10))))))))))))))))
def f_X4_turnColumn_0 (o : Nat) (x1 : Int32) (S : xSt) : Option (xSt × Unit) :=
  xlp (fun q : (xSt × Int32) => f_X4_turnColumn_2 o x1 q.1 q.2) 5000 (S, (0 : Int32))
def f_X4_turnColumn (o : Nat) (S : xSt) (x1 : Int32) : Option (xSt × Unit) := f_X4_turnColumn_0 o x1 S
def f_X4_wetColumn_0 (o : Nat) (x1 : Int32) (S : xSt) : Option (xSt × Unit) :=
  xgd (xin x1 6) (xbd (S.1 (o + 1) x1.toNatClampNeg) (fun v_1 => if v_1 ≤ 0 then (some (S, ())) else (xbd (x1 * (5 : Int32)) (fun v_3 => xgd (xin x1 6) (xbd (S.1 (o + 1) x1.toNatClampNeg) (fun v_4 => xbd (v_3 + v_4) (fun v_5 => xbd (v_5 - (1 : Int32)) (fun v_6 => xgd (xin v_6 30) (xbd (S.1 (o + 3) v_6.toNatClampNeg) (fun v_7 => xbd (v_7 + (2 : Int32)) (fun v_8 => xbd (if v_8 < (9 : Int32) then v_8 else (9 : Int32)) (fun v_9 => xgd (xin v_6 30) (xbd (xsi S (o + 3) v_6.toNatClampNeg v_9) (fun S_10 => some (S_10, ())))))))))))))))
def f_X4_wetColumn (o : Nat) (S : xSt) (x1 : Int32) : Option (xSt × Unit) := f_X4_wetColumn_0 o x1 S
def f_X3_outcome_225 (g_X3_outcome : xSt → Int32 → Int32 → Int32 → Option (xSt × Int32)) (x1 : Int32) (r4 : Nat) (x5 : Int32) (x6 : Int32) (x7 : Int32) (x8 : Int32) (S : xSt) : Option ((xSt × Int32 × Int32 × Int32) ⊕ (xSt × Int32)) :=
  xbd (x8 + (1 : Int32)) (fun v_1 => some (.inl (S, x6, x7, v_1)))
def f_X3_outcome_203 (g_X3_outcome : xSt → Int32 → Int32 → Int32 → Option (xSt × Int32)) (x1 : Int32) (r4 : Nat) (x5 : Int32) (x6 : Int32) (x7 : Int32) (x8 : Int32) (y1 : Int32) (S : xSt) : Option ((xSt × Int32 × Int32 × Int32) ⊕ (xSt × Int32)) :=
  xbd (xsi S 93 5 y1) (fun S_1 => f_X3_outcome_225 g_X3_outcome x1 r4 x5 x6 x7 x8 S_1)
def f_X3_outcome_209 (g_X3_outcome : xSt → Int32 → Int32 → Int32 → Option (xSt × Int32)) (x1 : Int32) (r4 : Nat) (x5 : Int32) (x6 : Int32) (x7 : Int32) (x8 : Int32) (x10 : Int32) (S : xSt) : Option ((xSt × Int32 × Int32 × Int32) ⊕ (xSt × Int32)) :=
  if ¬ x5 = 0 then (f_X3_outcome_225 g_X3_outcome x1 r4 x5 x6 x7 x8 S) else (if x10 ≤ x6 then (f_X3_outcome_225 g_X3_outcome x1 r4 x5 x6 x7 x8 S) else (f_X3_outcome_225 g_X3_outcome x1 r4 x5 x10 x7 x8 S))
def f_X3_outcome_160 (g_X3_outcome : xSt → Int32 → Int32 → Int32 → Option (xSt × Int32)) (x1 : Int32) (r4 : Nat) (x5 : Int32) (x6 : Int32) (x7 : Int32) (x8 : Int32) (x9 : Int32) (S : xSt) : Option ((xSt × Int32 × Int32 × Int32) ⊕ (xSt × Int32)) :=
  xbd (x1 + (1 : Int32)) (fun v_1 => xob (g_X3_outcome S v_1 x6 x7) (fun S_2 v_3 => if x5 = 0 then (f_X3_outcome_209 g_X3_outcome x1 r4 x5 x6 x7 x8 v_3 S_2) else (if x7 ≤ v_3 then (f_X3_outcome_209 g_X3_outcome x1 r4 x5 x6 x7 x8 v_3 S_2) else (if ¬ x1 = 0 then (xbd (S_2.1 93 5) (fun v_7 => f_X3_outcome_203 g_X3_outcome x1 r4 x5 x6 v_3 x8 v_7 S_2)) else (f_X3_outcome_203 g_X3_outcome x1 r4 x5 x6 v_3 x8 x9 S_2)))))
def f_X3_outcome_140 (g_X3_outcome : xSt → Int32 → Int32 → Int32 → Option (xSt × Int32)) (x1 : Int32) (r4 : Nat) (x5 : Int32) (x6 : Int32) (x7 : Int32) (x8 : Int32) (x9 : Int32) (S : xSt) : Option ((xSt × Int32 × Int32 × Int32) ⊕ (xSt × Int32)) :=
  if x9 = (6 : Int32) then (f_X3_outcome_160 g_X3_outcome x1 r4 x5 x6 x7 x8 x9 S) else (xbd (x1 + (1 : Int32)) (fun v_2 => xgd (xin v_2 4) (xob (f_X4_wetColumn (46 + 10 * v_2.toNatClampNeg) S x9) (fun S_4 v_5 => f_X3_outcome_160 g_X3_outcome x1 r4 x5 x6 x7 x8 x9 S_4))))
def f_X3_outcome_99 (g_X3_outcome : xSt → Int32 → Int32 → Int32 → Option (xSt × Int32)) (x1 : Int32) (r4 : Nat) (x5 : Int32) (x6 : Int32) (x7 : Int32) (x8 : Int32) (x9 : Int32) (S : xSt) : Option ((xSt × Int32 × Int32 × Int32) ⊕ (xSt × Int32)) :=
  xbd (x1 + (1 : Int32)) (fun v_1 => xgd (xin v_1 4) (xob (f_X4_takeAll (46 + 10 * v_1.toNatClampNeg) r4 S) (fun S_3 v_4 => if x9 = (6 : Int32) then (f_X3_outcome_140 g_X3_outcome x1 r4 x5 x6 x7 x8 x9 S_3) else (if x5 = 0 then (f_X3_outcome_140 g_X3_outcome x1 r4 x5 x6 x7 x8 x9 S_3) else (xbd (x1 + (1 : Int32)) (fun v_7 => xgd (xin v_7 4) (xob (f_X4_turnColumn (46 + 10 * v_7.toNatClampNeg) S_3 x9) (fun S_9 v_10 => f_X3_outcome_160 g_X3_outcome x1 r4 x5 x6 x7 x8 x9 S_9))))))))
def f_X3_outcome_76 (g_X3_outcome : xSt → Int32 → Int32 → Int32 → Option (xSt × Int32)) (x1 : Int32) (r4 : Nat) (x5 : Int32) (x6 : Int32) (x7 : Int32) (x8 : Int32) (y0 : Int32) (S : xSt) : Option ((xSt × Int32 × Int32 × Int32) ⊕ (xSt × Int32)) :=
  if y0 = (6 : Int32) then (f_X3_outcome_99 g_X3_outcome x1 r4 x5 x6 x7 x8 y0 S) else (xgd (xin y0 6) (xbd (S.1 (r4 + 1) y0.toNatClampNeg) (fun v_2 => if ¬ v_2 = 0 then (f_X3_outcome_99 g_X3_outcome x1 r4 x5 x6 x7 x8 y0 S) else (f_X3_outcome_225 g_X3_outcome x1 r4 x5 x6 x7 x8 S))))
def f_X3_outcome_231 (g_X3_outcome : xSt → Int32 → Int32 → Int32 → Option (xSt × Int32)) (x5 : Int32) (x6 : Int32) (x7 : Int32) (S : xSt) : Option (xSt × Int32) :=
  if x5 = 0 then (some (S, x6)) else (some (S, x7))
def f_X3_outcome_48 (g_X3_outcome : xSt → Int32 → Int32 → Int32 → Option (xSt × Int32)) (x1 : Int32) (r4 : Nat) (x5 : Int32) (S : xSt) (x6 : Int32) (x7 : Int32) (x8 : Int32) : Option ((xSt × Int32 × Int32 × Int32) ⊕ (xSt × Int32)) :=
  if (6 : Int32) < x8 then (xmr (f_X3_outcome_231 g_X3_outcome x5 x6 x7 S)) else (if x7 ≤ x6 then (xmr (f_X3_outcome_231 g_X3_outcome x5 x6 x7 S)) else (if ¬ x8 = 0 then (xbd (x8 - (1 : Int32)) (fun v_4 => f_X3_outcome_76 g_X3_outcome x1 r4 x5 x6 x7 x8 v_4 S)) else (f_X3_outcome_76 g_X3_outcome x1 r4 x5 x6 x7 x8 ((6 : Int32)) S)))
def f_X3_outcome_37 (g_X3_outcome : xSt → Int32 → Int32 → Int32 → Option (xSt × Int32)) (x1 : Int32) (x2 : Int32) (x3 : Int32) (r4 : Nat) (y0 : Int32) (S : xSt) : Option (xSt × Int32) :=
  xlp (fun q : (xSt × Int32 × Int32 × Int32) => f_X3_outcome_48 g_X3_outcome x1 r4 y0 q.1 q.2.1 q.2.2.1 q.2.2.2) 5000 (S, x2, x3, (0 : Int32))
def f_X3_outcome_0 (g_X3_outcome : xSt → Int32 → Int32 → Int32 → Option (xSt × Int32)) (x1 : Int32) (x2 : Int32) (x3 : Int32) (S : xSt) : Option (xSt × Int32) :=
  xgd (xin x1 4) (xbd (S.1 93 2) (fun v_2 => if x1 < v_2 then (xgd (¬ (2 : Int32) = 0) (xbd (x1 - x1 / (2 : Int32) * (2 : Int32)) (fun v_4 => if ¬ v_4 = 0 then (f_X3_outcome_37 g_X3_outcome x1 x2 x3 (46 + 10 * x1.toNatClampNeg) ((0 : Int32)) S) else (f_X3_outcome_37 g_X3_outcome x1 x2 x3 (46 + 10 * x1.toNatClampNeg) ((1 : Int32)) S)))) else (xbd (S.1 93 3) (fun v_6 => xob (f_X4_hottestBehind (46 + 10 * x1.toNatClampNeg) S v_6) (fun S_7 v_8 => some (S_7, v_8))))))
def F_X3_outcome : Nat → (xSt → Int32 → Int32 → Int32 → Option (xSt × Int32))
  | 0 => ((fun _ _ _ _ => none))
  | d + 1 => ((fun S x1 x2 x3 => f_X3_outcome_0 ((F_X3_outcome d)) x1 x2 x3 S))
def f_X3_outcome (d : Nat) : xSt → Int32 → Int32 → Int32 → Option (xSt × Int32) := (F_X3_outcome d)
def f_X3_play_0 (x1 : Int32) (x2 : Int32) (S : xSt) : Option (xSt × Unit) :=
  xbd (xsi S 93 4 (-2 : Int32)) (fun S_1 => xbd (xsi S_1 93 5 (-2 : Int32)) (fun S_2 => xob (f_X4_cells 16 S_2) (fun S_3 v_4 => if v_4 ≤ 0 then (some (S_3, ())) else (xbd (if x1 < (3 : Int32) then x1 else (3 : Int32)) (fun v_6 => xbd (xsi S_3 93 2 v_6) (fun S_7 => xbd (xsi S_7 93 3 x2) (fun S_8 => xgd (xin (0 : Int32) 4) (xob (f_X4_takeAll (46 + 10 * (0 : Int32).toNatClampNeg) 16 S_8) (fun S_10 v_11 => xgd (xin (1 : Int32) 8) (xbd (xt_MOST (1 : Int32).toNatClampNeg) (fun v_12 => xbd (v_12 + (1 : Int32)) (fun v_13 => xob (f_X3_outcome 5 S_10 (0 : Int32) (-1 : Int32) v_13) (fun S_14 v_15 => xbd (xsi S_14 93 4 v_15) (fun S_16 => some (S_16, ())))))))))))))))
def f_X3_play (S : xSt) (x1 : Int32) (x2 : Int32) : Option (xSt × Unit) := f_X3_play_0 x1 x2 S
def f_X4_numberOf_0 (o : Nat) (x1 : Int32) (x2 : Int32) (S : xSt) : Option (xSt × Int32) :=
  if x2 = (0 : Int32) then (xgd (xin x1 30) (xbd (S.1 (o + 3) x1.toNatClampNeg) (fun v_2 => some (S, v_2)))) else (if x2 = (1 : Int32) then (xgd (xin x1 30) (xbd (S.1 (o + 4) x1.toNatClampNeg) (fun v_4 => some (S, v_4)))) else (if x2 = (2 : Int32) then (xgd (xin x1 30) (xbd (S.1 (o + 5) x1.toNatClampNeg) (fun v_6 => some (S, v_6)))) else (if x2 = (3 : Int32) then (xgd (xin x1 30) (xbd (S.1 (o + 6) x1.toNatClampNeg) (fun v_8 => some (S, v_8)))) else (if x2 = (4 : Int32) then (xgd (xin x1 30) (xbd (S.1 (o + 7) x1.toNatClampNeg) (fun v_10 => some (S, v_10)))) else (if x2 = (5 : Int32) then (xgd (xin x1 6) (xbd (S.1 (o + 2) x1.toNatClampNeg) (fun v_12 => some (S, v_12)))) else (if x2 = (6 : Int32) then (xbd (S.1 o 10) (fun v_14 => some (S, v_14))) else (xbd (S.1 o 11) (fun v_15 => some (S, v_15)))))))))
def f_X4_numberOf (o : Nat) (S : xSt) (x1 : Int32) (x2 : Int32) : Option (xSt × Int32) := f_X4_numberOf_0 o x1 x2 S
def f_X4_pileOn_0 (o : Nat) (x1 : Int32) (x2 : Int32) (x3 : Int32) (S : xSt) : Option (xSt × Int32) :=
  xgd (xin x1 6) (xbd (S.1 (o + 1) x1.toNatClampNeg) (fun v_1 => if v_1 < (5 : Int32) then (xbd (x1 * (5 : Int32)) (fun v_3 => xgd (xin x1 6) (xbd (S.1 (o + 1) x1.toNatClampNeg) (fun v_4 => xbd (v_3 + v_4) (fun v_5 => xgd (xin v_5 30) (xbd (xsi S (o + 3) v_5.toNatClampNeg x2) (fun S_6 => xgd (xin v_5 30) (xbd (xsi S_6 (o + 4) v_5.toNatClampNeg (20 : Int32)) (fun S_7 => xgd (xin v_5 30) (xbd (xsi S_7 (o + 5) v_5.toNatClampNeg (99 : Int32)) (fun S_8 => xgd (xin v_5 30) (xbd (xsi S_8 (o + 6) v_5.toNatClampNeg (0 : Int32)) (fun S_9 => xgd (xin v_5 30) (xbd (xsi S_9 (o + 7) v_5.toNatClampNeg x3) (fun S_10 => xgd (xin x1 6) (xbd (S_10.1 (o + 1) x1.toNatClampNeg) (fun v_11 => xbd (v_11 + (1 : Int32)) (fun v_12 => xgd (xin x1 6) (xbd (xsi S_10 (o + 1) x1.toNatClampNeg v_12) (fun S_13 => some (S_13, v_5))))))))))))))))))))) else (some (S, (-3 : Int32)))))
def f_X4_pileOn (o : Nat) (S : xSt) (x1 : Int32) (x2 : Int32) (x3 : Int32) : Option (xSt × Int32) := f_X4_pileOn_0 o x1 x2 x3 S
def f_X4_around_69 (o : Nat) (x1 : Int32) (x2 : Int32) (x3 : Int32) (x4 : Int32) (S : xSt) : Option (xSt × Int32) :=
  xbd (x2 + (1 : Int32)) (fun v_1 => xob (f_X4_isBeyond o S v_1 x3) (fun S_2 v_3 => if v_3 = 0 then (xbd (x1 + (5 : Int32)) (fun v_5 => xbd ((1 : Int32) <<< (v_5 &&& 31)) (fun v_6 => xbd (x4 ||| v_6) (fun v_7 => some (S_2, v_7))))) else (some (S_2, x4))))
def f_X4_around_48 (o : Nat) (x1 : Int32) (x2 : Int32) (x3 : Int32) (x4 : Int32) (S : xSt) : Option (xSt × Int32) :=
  xbd (x2 - (1 : Int32)) (fun v_1 => xob (f_X4_isBeyond o S v_1 x3) (fun S_2 v_3 => if ¬ v_3 = 0 then (f_X4_around_69 o x1 x2 x3 x4 S_2) else (xbd (x1 - (5 : Int32)) (fun v_5 => xbd ((1 : Int32) <<< (v_5 &&& 31)) (fun v_6 => xbd (x4 ||| v_6) (fun v_7 => f_X4_around_69 o x1 x2 x3 v_7 S_2))))))
def f_X4_around_27 (o : Nat) (x1 : Int32) (x2 : Int32) (x3 : Int32) (x4 : Int32) (S : xSt) : Option (xSt × Int32) :=
  xbd (x3 + (1 : Int32)) (fun v_1 => xob (f_X4_isBeyond o S x2 v_1) (fun S_2 v_3 => if ¬ v_3 = 0 then (f_X4_around_48 o x1 x2 x3 x4 S_2) else (xbd (x1 + (1 : Int32)) (fun v_5 => xbd ((1 : Int32) <<< (v_5 &&& 31)) (fun v_6 => xbd (x4 ||| v_6) (fun v_7 => f_X4_around_48 o x1 x2 x3 v_7 S_2))))))
def f_X4_around_0 (o : Nat) (x1 : Int32) (S : xSt) : Option (xSt × Int32) :=
  xgd (¬ (5 : Int32) = 0) (xbd (x1 / (5 : Int32)) (fun v_1 => xgd (¬ (5 : Int32) = 0) (xbd (x1 - x1 / (5 : Int32) * (5 : Int32)) (fun v_2 => xbd ((1 : Int32) <<< (x1 &&& 31)) (fun v_3 => if v_2 ≤ 0 then (f_X4_around_27 o x1 v_1 v_2 v_3 S) else (xbd (x1 - (1 : Int32)) (fun v_5 => xbd ((1 : Int32) <<< (v_5 &&& 31)) (fun v_6 => xbd (v_3 ||| v_6) (fun v_7 => f_X4_around_27 o x1 v_1 v_2 v_7 S)))))))))
def f_X4_around (o : Nat) (S : xSt) (x1 : Int32) : Option (xSt × Int32) := f_X4_around_0 o x1 S
def f_X4_glowing_34 (o : Nat) (x1 : Int32) (x2 : Int32) (S : xSt) : Option ((xSt × Int32 × Int32) ⊕ (xSt × Int32)) :=
  xbd (x2 + (1 : Int32)) (fun v_1 => some (.inl (S, x1, v_1)))
def f_X4_glowing_4 (o : Nat) (S : xSt) (x1 : Int32) (x2 : Int32) : Option ((xSt × Int32 × Int32) ⊕ (xSt × Int32)) :=
  if (30 : Int32) ≤ x2 then (some (.inr (S, x1))) else (xob (f_X4_has o S x2) (fun S_2 v_3 => if v_3 = 0 then (f_X4_glowing_34 o x1 x2 S_2) else (xgd (xin x2 30) (xbd (S_2.1 (o + 4) x2.toNatClampNeg) (fun v_5 => xbd (S_2.1 o 10) (fun v_6 => if v_5 < v_6 then (f_X4_glowing_34 o x1 x2 S_2) else (xbd (x1 + (1 : Int32)) (fun v_8 => f_X4_glowing_34 o v_8 x2 S_2))))))))
def f_X4_glowing_0 (o : Nat) (S : xSt) : Option (xSt × Int32) :=
  xlp (fun q : (xSt × Int32 × Int32) => f_X4_glowing_4 o q.1 q.2.1 q.2.2) 5000 (S, (0 : Int32), (0 : Int32))
def f_X4_glowing (o : Nat) (S : xSt) : Option (xSt × Int32) := f_X4_glowing_0 o S
def f_X4_goodOfAll_27 (o : Nat) (x1 : Int32) (x2 : Int32) (S : xSt) : Option ((xSt × Int32 × Int32) ⊕ (xSt × Int32)) :=
  xbd (x2 + (1 : Int32)) (fun v_1 => some (.inl (S, x1, v_1)))
def f_X4_goodOfAll_4 (o : Nat) (S : xSt) (x1 : Int32) (x2 : Int32) : Option ((xSt × Int32 × Int32) ⊕ (xSt × Int32)) :=
  if (30 : Int32) ≤ x2 then (some (.inr (S, x1))) else (xob (f_X4_has o S x2) (fun S_2 v_3 => if v_3 = 0 then (f_X4_goodOfAll_27 o x1 x2 S_2) else (xgd (xin x2 30) (xbd (S_2.1 (o + 5) x2.toNatClampNeg) (fun v_5 => xbd (x1 + v_5) (fun v_6 => f_X4_goodOfAll_27 o v_6 x2 S_2))))))
def f_X4_goodOfAll_0 (o : Nat) (S : xSt) : Option (xSt × Int32) :=
  xlp (fun q : (xSt × Int32 × Int32) => f_X4_goodOfAll_4 o q.1 q.2.1 q.2.2) 5000 (S, (0 : Int32), (0 : Int32))
def f_X4_goodOfAll (o : Nat) (S : xSt) : Option (xSt × Int32) := f_X4_goodOfAll_0 o S
def f_X4_value_43 (o : Nat) (x1 : Int32) (x2 : Int32) (S : xSt) : Option ((xSt × Int32 × Int32) ⊕ (xSt × Int32)) :=
  xbd (x2 + (1 : Int32)) (fun v_1 => some (.inl (S, x1, v_1)))
def f_X4_value_4 (o : Nat) (S : xSt) (x1 : Int32) (x2 : Int32) : Option ((xSt × Int32 × Int32) ⊕ (xSt × Int32)) :=
  if (30 : Int32) ≤ x2 then (some (.inr (S, x1))) else (xob (f_X4_has o S x2) (fun S_2 v_3 => if v_3 = 0 then (f_X4_value_43 o x1 x2 S_2) else (xgd (xin x2 30) (xbd (S_2.1 (o + 4) x2.toNatClampNeg) (fun v_5 => xbd (S_2.1 o 10) (fun v_6 => if v_6 ≤ v_5 then (f_X4_value_43 o x1 x2 S_2) else (xgd (xin x2 30) (xbd (S_2.1 (o + 5) x2.toNatClampNeg) (fun v_8 => xgd (¬ (9 : Int32) = 0) (xbd (v_8 / (9 : Int32)) (fun v_9 => xbd (x1 + v_9) (fun v_10 => f_X4_value_43 o v_10 x2 S_2))))))))))))
def f_X4_value_0 (o : Nat) (S : xSt) : Option (xSt × Int32) :=
  xlp (fun q : (xSt × Int32 × Int32) => f_X4_value_4 o q.1 q.2.1 q.2.2) 5000 (S, (0 : Int32), (0 : Int32))
def f_X4_value (o : Nat) (S : xSt) : Option (xSt × Int32) := f_X4_value_0 o S
def f_X5_become_70 (S : xSt) (x2 : Int32) : Option ((xSt × Int32) ⊕ (xSt × Unit)) :=
  if (2048 : Int32) ≤ x2 then (some (.inr (S, ()))) else (xgd (xin x2 2048) (xbd (xsi S 15 x2.toNatClampNeg (0 : Int32)) (fun S_2 => xbd (x2 + (1 : Int32)) (fun v_3 => some (.inl (S_2, v_3))))))
def f_X5_become_0 (S : xSt) : Option (xSt × Unit) :=
  xbd (S.1 2 7) (fun v_1 => xbd (xsi S 8 0 v_1) (fun S_2 => xgd (¬ (0 : Int32) < 0 ∧ ¬ (0 : Int32) < 0 ∧ ¬ (120 : Int32) < 0 ∧ (0 : Int32).toNatClampNeg + (120 : Int32).toNatClampNeg ≤ 120 ∧ (0 : Int32).toNatClampNeg + (120 : Int32).toNatClampNeg ≤ 120) (xbd (xcpi S_2 4 (0 : Int32).toNatClampNeg 9 (0 : Int32).toNatClampNeg (120 : Int32).toNatClampNeg) (fun S_3 => xgd (¬ (0 : Int32) < 0 ∧ ¬ (0 : Int32) < 0 ∧ ¬ (120 : Int32) < 0 ∧ (0 : Int32).toNatClampNeg + (120 : Int32).toNatClampNeg ≤ 120 ∧ (0 : Int32).toNatClampNeg + (120 : Int32).toNatClampNeg ≤ 120) (xbd (xcpi S_3 5 (0 : Int32).toNatClampNeg 10 (0 : Int32).toNatClampNeg (120 : Int32).toNatClampNeg) (fun S_4 => xgd (¬ (0 : Int32) < 0 ∧ ¬ (0 : Int32) < 0 ∧ ¬ (120 : Int32) < 0 ∧ (0 : Int32).toNatClampNeg + (120 : Int32).toNatClampNeg ≤ 120 ∧ (0 : Int32).toNatClampNeg + (120 : Int32).toNatClampNeg ≤ 120) (xbd (xcpi S_4 6 (0 : Int32).toNatClampNeg 11 (0 : Int32).toNatClampNeg (120 : Int32).toNatClampNeg) (fun S_5 => xgd (¬ (0 : Int32) < 0 ∧ ¬ (0 : Int32) < 0 ∧ ¬ (120 : Int32) < 0 ∧ (0 : Int32).toNatClampNeg + (120 : Int32).toNatClampNeg ≤ 120 ∧ (0 : Int32).toNatClampNeg + (120 : Int32).toNatClampNeg ≤ 120) (xbd (xcpi S_5 7 (0 : Int32).toNatClampNeg 12 (0 : Int32).toNatClampNeg (120 : Int32).toNatClampNeg) (fun S_6 => xlp (fun q : (xSt × Int32) => f_X5_become_70 q.1 q.2) 5000 (S_6, (0 : Int32))))))))))))
def f_X5_become (S : xSt) : Option (xSt × Unit) := f_X5_become_0 S
def f_X6_placeOf_17 (S : xSt) : Option (xSt × Int32) :=
  some (S, (-2 : Int32))
def f_X6_placeOf_0 (x1 : Int32) (S : xSt) : Option (xSt × Int32) :=
  xbd (S.1 89 6) (fun v_1 => if v_1 = (-2 : Int32) then (f_X6_placeOf_17 S) else (xbd (S.1 89 5) (fun v_3 => if x1 < v_3 then (xgd (xin x1 6) (xbd (S.1 92 x1.toNatClampNeg) (fun v_5 => some (S, v_5)))) else (f_X6_placeOf_17 S))))
def f_X6_placeOf (S : xSt) (x1 : Int32) : Option (xSt × Int32) := f_X6_placeOf_0 x1 S
def f_X6_takeLoads_7 (o1 : Nat) (S : xSt) (x2 : Int32) : Option ((xSt × Int32) ⊕ (xSt × Unit)) :=
  xbd (S.1 o1 3) (fun v_1 => if v_1 ≤ x2 then (some (.inr (S, ()))) else (if (6 : Int32) ≤ x2 then (some (.inr (S, ()))) else (xgd (xin x2 60) (xbd (S.2 (o1 + 1) x2.toNatClampNeg) (fun v_4 => xbd (lg_cmp v_4 (0 : Int64)) (fun v_5 => if v_5 < 0 then (some (.inr (S, ()))) else (xgd (xin (0 : Int32) 8) (xbd (xt_MOST (0 : Int32).toNatClampNeg) (fun v_7 => xbd (v_7.toInt64) (fun v_8 => xbd (lg_cmp v_4 v_8) (fun v_9 => if v_9 ≤ 0 then (xbd (v_4.toInt32) (fun v_11 => xgd (xin x2 6) (xbd (xsi S 90 x2.toNatClampNeg v_11) (fun S_12 => xbd (S_12.1 89 5) (fun v_13 => xbd (v_13 + (1 : Int32)) (fun v_14 => xbd (xsi S_12 89 5 v_14) (fun S_15 => xbd (x2 + (1 : Int32)) (fun v_16 => some (.inl (S_15, v_16)))))))))) else (some (.inr (S, ()))))))))))))))
def f_X6_takeLoads_0 (o1 : Nat) (S : xSt) : Option (xSt × Unit) :=
  xbd (xsi S 89 5 (0 : Int32)) (fun S_1 => xlp (fun q : (xSt × Int32) => f_X6_takeLoads_7 o1 q.1 q.2) 5000 (S_1, (0 : Int32)))
def f_X6_takeLoads (o1 : Nat) (S : xSt) : Option (xSt × Unit) := f_X6_takeLoads_0 o1 S
def f_X6_isRepeated_59 (x1 : Int32) (x2 : Int32) (S : xSt) : Option ((xSt × Int32) ⊕ ((xSt × Int32) ⊕ (xSt × Int32))) :=
  xbd (x2 + (1 : Int32)) (fun v_1 => some (.inl (S, v_1)))
def f_X6_isRepeated_65 (x1 : Int32) (S : xSt) : Option ((xSt × Int32) ⊕ (xSt × Int32)) :=
  xbd (x1 + (1 : Int32)) (fun v_1 => some (.inl (S, v_1)))
def f_X6_isRepeated_12 (x1 : Int32) (S : xSt) (x2 : Int32) : Option ((xSt × Int32) ⊕ ((xSt × Int32) ⊕ (xSt × Int32))) :=
  if x1 ≤ x2 then (xmr (f_X6_isRepeated_65 x1 S)) else (xgd (xin x2 6) (xbd (S.1 91 x2.toNatClampNeg) (fun v_2 => xgd (xin x1 6) (xbd (S.1 91 x1.toNatClampNeg) (fun v_3 => if v_2 ≤ v_3 then (f_X6_isRepeated_59 x1 x2 S) else (xgd (xin x2 6) (xbd (S.1 91 x2.toNatClampNeg) (fun v_5 => xgd (xin v_5 6) (xbd (S.1 90 v_5.toNatClampNeg) (fun v_6 => xgd (xin x1 6) (xbd (S.1 91 x1.toNatClampNeg) (fun v_7 => xgd (xin v_7 6) (xbd (S.1 90 v_7.toNatClampNeg) (fun v_8 => if ¬ v_6 = v_8 then (f_X6_isRepeated_59 x1 x2 S) else (xgd ((1 : Int32) = 0 ∨ (1 : Int32) = 1) (some (.inr (.inr (S, (1 : Int32))))))))))))))))))))
def f_X6_isRepeated_2 (S : xSt) (x1 : Int32) : Option ((xSt × Int32) ⊕ (xSt × Int32)) :=
  xbd (S.1 89 5) (fun v_1 => if v_1 ≤ x1 then (xgd ((0 : Int32) = 0 ∨ (0 : Int32) = 1) (some (.inr (S, (0 : Int32))))) else (xlp (fun q : (xSt × Int32) => f_X6_isRepeated_12 x1 q.1 q.2) 5000 (S, (0 : Int32))))
def f_X6_isRepeated_0 (S : xSt) : Option (xSt × Int32) :=
  xlp (fun q : (xSt × Int32) => f_X6_isRepeated_2 q.1 q.2) 5000 (S, (1 : Int32))
def f_X6_isRepeated (S : xSt) : Option (xSt × Int32) := f_X6_isRepeated_0 S
def f_X6_weigh_78 (x2 : Int32) (S : xSt) : Option (xSt × Unit) :=
  xbd (xsi S 89 6 x2) (fun S_1 => xgd (¬ (0 : Int32) < 0 ∧ ¬ (0 : Int32) < 0 ∧ ¬ (6 : Int32) < 0 ∧ (0 : Int32).toNatClampNeg + (6 : Int32).toNatClampNeg ≤ 6 ∧ (0 : Int32).toNatClampNeg + (6 : Int32).toNatClampNeg ≤ 6) (xbd (xcpi S_1 91 (0 : Int32).toNatClampNeg 92 (0 : Int32).toNatClampNeg (6 : Int32).toNatClampNeg) (fun S_2 => some (S_2, ()))))
def f_X6_weigh_48 (x1 : Int32) (S : xSt) : Option (xSt × Unit) :=
  xob (f_X4_hottestBehind 36 S x1) (fun S_1 v_2 => if v_2 < 0 then (some (S_1, ())) else (xbd (S_1.1 89 6) (fun v_4 => if v_4 = (-2 : Int32) then (f_X6_weigh_78 v_2 S_1) else (xbd (S_1.1 89 6) (fun v_6 => if v_6 ≤ v_2 then (some (S_1, ())) else (f_X6_weigh_78 v_2 S_1))))))
def f_X6_weigh_13 (x1 : Int32) (S : xSt) (x2 : Int32) : Option ((xSt × Int32) ⊕ (xSt × Unit)) :=
  xbd (S.1 89 5) (fun v_1 => if v_1 ≤ x2 then (xmr (f_X6_weigh_48 x1 S)) else (xgd (xin x2 6) (xbd (S.1 91 x2.toNatClampNeg) (fun v_3 => xgd (xin v_3 6) (xbd (S.1 90 v_3.toNatClampNeg) (fun v_4 => xob (f_X4_pileOn 36 S x2 v_4 (0 : Int32)) (fun S_5 v_6 => xbd (x2 + (1 : Int32)) (fun v_7 => some (.inl (S_5, v_7))))))))))
def f_X6_weigh_0 (x1 : Int32) (S : xSt) : Option (xSt × Unit) :=
  xob (f_X4_takeAll 36 16 S) (fun S_1 v_2 => xlp (fun q : (xSt × Int32) => f_X6_weigh_13 x1 q.1 q.2) 5000 (S_1, (0 : Int32)))
def f_X6_weigh (S : xSt) (x1 : Int32) : Option (xSt × Unit) := f_X6_weigh_0 x1 S
def f_X6_swap_0 (x1 : Int32) (x2 : Int32) (S : xSt) : Option (xSt × Unit) :=
  xgd (xin x1 6) (xbd (S.1 91 x1.toNatClampNeg) (fun v_1 => xgd (xin x2 6) (xbd (S.1 91 x2.toNatClampNeg) (fun v_2 => xgd (xin x1 6) (xbd (xsi S 91 x1.toNatClampNeg v_2) (fun S_3 => xgd (xin x2 6) (xbd (xsi S_3 91 x2.toNatClampNeg v_1) (fun S_4 => some (S_4, ())))))))))
def f_X6_swap (S : xSt) (x1 : Int32) (x2 : Int32) : Option (xSt × Unit) := f_X6_swap_0 x1 x2 S
def f_X6_goToNextOrder_91 (S : xSt) (x3 : Int32) (x4 : Int32) : Option ((xSt × Int32 × Int32) ⊕ (xSt × Int32)) :=
  if x4 ≤ x3 then (xgd ((1 : Int32) = 0 ∨ (1 : Int32) = 1) (some (.inr (S, (1 : Int32))))) else (xob (f_X6_swap S x3 x4) (fun S_2 v_3 => xbd (x3 + (1 : Int32)) (fun v_4 => xbd (x4 + (-1 : Int32)) (fun v_5 => some (.inl (S_2, v_4, v_5))))))
def f_X6_goToNextOrder_73 (x1 : Int32) (x2 : Int32) (S : xSt) : Option (xSt × Int32) :=
  xob (f_X6_swap S x1 x2) (fun S_1 v_2 => xbd (x1 + (1 : Int32)) (fun v_3 => xbd (S_1.1 89 5) (fun v_4 => xbd (v_4 - (1 : Int32)) (fun v_5 => xlp (fun q : (xSt × Int32 × Int32) => f_X6_goToNextOrder_91 q.1 q.2.1 q.2.2) 5000 (S_1, v_3, v_5)))))
def f_X6_goToNextOrder_47 (x1 : Int32) (S : xSt) (x2 : Int32) : Option ((xSt × Int32) ⊕ (xSt × Int32)) :=
  if x2 ≤ x1 then (xmr (f_X6_goToNextOrder_73 x1 x2 S)) else (xgd (xin x2 6) (xbd (S.1 91 x2.toNatClampNeg) (fun v_2 => xgd (xin x1 6) (xbd (S.1 91 x1.toNatClampNeg) (fun v_3 => if v_3 ≤ v_2 then (xmr (f_X6_goToNextOrder_73 x1 x2 S)) else (xbd (x2 + (-1 : Int32)) (fun v_5 => some (.inl (S, v_5)))))))))
def f_X6_goToNextOrder_34 (x1 : Int32) (S : xSt) : Option (xSt × Int32) :=
  if 0 ≤ x1 then (xbd (S.1 89 5) (fun v_2 => xbd (v_2 - (1 : Int32)) (fun v_3 => xlp (fun q : (xSt × Int32) => f_X6_goToNextOrder_47 x1 q.1 q.2) 5000 (S, v_3)))) else (xgd ((0 : Int32) = 0 ∨ (0 : Int32) = 1) (some (S, (0 : Int32))))
def f_X6_goToNextOrder_7 (S : xSt) (x1 : Int32) : Option ((xSt × Int32) ⊕ (xSt × Int32)) :=
  if x1 < 0 then (xmr (f_X6_goToNextOrder_34 x1 S)) else (xgd (xin x1 6) (xbd (S.1 91 x1.toNatClampNeg) (fun v_2 => xbd (x1 + (1 : Int32)) (fun v_3 => xgd (xin v_3 6) (xbd (S.1 91 v_3.toNatClampNeg) (fun v_4 => if v_2 ≤ v_4 then (xmr (f_X6_goToNextOrder_34 x1 S)) else (xbd (x1 + (-1 : Int32)) (fun v_6 => some (.inl (S, v_6))))))))))
def f_X6_goToNextOrder_0 (S : xSt) : Option (xSt × Int32) :=
  xbd (S.1 89 5) (fun v_1 => xbd (v_1 - (2 : Int32)) (fun v_2 => xlp (fun q : (xSt × Int32) => f_X6_goToNextOrder_7 q.1 q.2) 5000 (S, v_2)))
def f_X6_goToNextOrder (S : xSt) : Option (xSt × Int32) := f_X6_goToNextOrder_0 S
def f_X6_seek_77 (o1 : Nat) (x2 : Int32) (x4 : Int32) (S : xSt) : Option ((xSt × Int32 × Int32) ⊕ (xSt × Unit)) :=
  xob (f_X6_goToNextOrder S) (fun S_1 v_2 => xbd (x4 + (1 : Int32)) (fun v_3 => some (.inl (S_1, v_2, v_3))))
def f_X6_seek_53 (o1 : Nat) (x2 : Int32) (S : xSt) (x3 : Int32) (x4 : Int32) : Option ((xSt × Int32 × Int32) ⊕ (xSt × Unit)) :=
  if (720 : Int32) ≤ x4 then (some (.inr (S, ()))) else (if x3 = 0 then (some (.inr (S, ()))) else (xob (f_X6_isRepeated S) (fun S_3 v_4 => if ¬ v_4 = 0 then (f_X6_seek_77 o1 x2 x4 S_3) else (xob (f_X6_weigh S_3 x2) (fun S_6 v_7 => f_X6_seek_77 o1 x2 x4 S_6)))))
def f_X6_seek_48 (o1 : Nat) (x2 : Int32) (S : xSt) : Option (xSt × Unit) :=
  xlp (fun q : (xSt × Int32 × Int32) => f_X6_seek_53 o1 x2 q.1 q.2.1 q.2.2) 5000 (S, (1 : Int32), (0 : Int32))
def f_X6_seek_13 (o1 : Nat) (x2 : Int32) (S : xSt) (x3 : Int32) : Option ((xSt × Int32) ⊕ (xSt × Unit)) :=
  xbd (S.1 89 5) (fun v_1 => if v_1 ≤ x3 then (xmr (f_X6_seek_48 o1 x2 S)) else (xgd (xin x3 6) (xbd (S.1 (16 + 1) x3.toNatClampNeg) (fun v_3 => if v_3 < (5 : Int32) then (xgd (xin x3 6) (xbd (xsi S 91 x3.toNatClampNeg x3) (fun S_5 => xbd (x3 + (1 : Int32)) (fun v_6 => some (.inl (S_5, v_6)))))) else (some (.inr (S, ())))))))
def f_X6_seek_0 (o1 : Nat) (x2 : Int32) (S : xSt) : Option (xSt × Unit) :=
  xob (f_X6_takeLoads o1 S) (fun S_1 v_2 => xbd (xsi S_1 89 6 (-2 : Int32)) (fun S_3 => xlp (fun q : (xSt × Int32) => f_X6_seek_13 o1 x2 q.1 q.2) 5000 (S_3, (0 : Int32))))
def f_X6_seek (o1 : Nat) (S : xSt) (x2 : Int32) : Option (xSt × Unit) := f_X6_seek_0 o1 x2 S
def f_J6_bitCount_0f7a4_0 (x0 : Int32) (S : xSt) : Option (xSt × Int32) :=
  xbd ((x0.toUInt32 >>> ((1 : Int32).toUInt32 &&& Int32.toUInt32 31)).toInt32) (fun v_1 => xbd (v_1 &&& (1431655765 : Int32)) (fun v_2 => xbd (x0 - v_2) (fun v_3 => xbd (v_3 &&& (858993459 : Int32)) (fun v_4 => xbd ((v_3.toUInt32 >>> ((2 : Int32).toUInt32 &&& Int32.toUInt32 31)).toInt32) (fun v_5 => xbd (v_5 &&& (858993459 : Int32)) (fun v_6 => xbd (v_4 + v_6) (fun v_7 => xbd ((v_7.toUInt32 >>> ((4 : Int32).toUInt32 &&& Int32.toUInt32 31)).toInt32) (fun v_8 => xbd (v_7 + v_8) (fun v_9 => xbd (v_9 &&& (252645135 : Int32)) (fun v_10 => xbd ((v_10.toUInt32 >>> ((8 : Int32).toUInt32 &&& Int32.toUInt32 31)).toInt32) (fun v_11 => xbd (v_10 + v_11) (fun v_12 => xbd ((v_12.toUInt32 >>> ((16 : Int32).toUInt32 &&& Int32.toUInt32 31)).toInt32) (fun v_13 => xbd (v_12 + v_13) (fun v_14 => xbd (v_14 &&& (63 : Int32)) (fun v_15 => some (S, v_15))))))))))))))))
def f_J6_bitCount_0f7a4 (S : xSt) (x0 : Int32) : Option (xSt × Int32) := f_J6_bitCount_0f7a4_0 x0 S
def f_X11_lowestBit_0 (x0 : Int32) (S : xSt) : Option (xSt × Int32) :=
  if ¬ x0 = 0 then (xbd (-x0) (fun v_2 => xbd (x0 &&& v_2) (fun v_3 => xbd (v_3 - (1 : Int32)) (fun v_4 => xob (f_J6_bitCount_0f7a4 S v_4) (fun S_5 v_6 => some (S_5, v_6)))))) else (some (S, (-2 : Int32)))
def f_X11_lowestBit (S : xSt) (x0 : Int32) : Option (xSt × Int32) := f_X11_lowestBit_0 x0 S
def f_X7_place_20 (g_X7_place : xSt → Int32 → Int32 → Int32 → Option (xSt × Unit)) (x2 : Int32) (S : xSt) : Option (xSt × Unit) :=
  xbd (xsi S 87 2 x2) (fun S_1 => some (S_1, ()))
def f_X7_place_86 (g_X7_place : xSt → Int32 → Int32 → Int32 → Option (xSt × Unit)) (x1 : Int32) (x2 : Int32) (x3 : Int32) (x4 : Int32) (x5 : Int32) (S : xSt) : Option ((xSt × Int32) ⊕ (xSt × Unit)) :=
  xbd (x5 + (1 : Int32)) (fun v_1 => some (.inl (S, v_1)))
def f_X7_place_40 (g_X7_place : xSt → Int32 → Int32 → Int32 → Option (xSt × Unit)) (x1 : Int32) (x2 : Int32) (x3 : Int32) (x4 : Int32) (S : xSt) (x5 : Int32) : Option ((xSt × Int32) ⊕ (xSt × Unit)) :=
  if (30 : Int32) ≤ x5 then (some (.inr (S, ()))) else (xgd (xin x5 30) (xbd (S.1 88 x5.toNatClampNeg) (fun v_2 => xbd (v_2 >>> (x4 &&& 31)) (fun v_3 => xbd (v_3 &&& (1 : Int32)) (fun v_4 => if v_4 = 0 then (f_X7_place_86 g_X7_place x1 x2 x3 x4 x5 S) else (xgd (xin x5 30) (xbd (S.1 88 x5.toNatClampNeg) (fun v_6 => xbd (v_6 ^^^ (-1 : Int32)) (fun v_7 => xbd (x1 &&& v_7) (fun v_8 => xbd ((1 : Int32) <<< (x5 &&& 31)) (fun v_9 => xbd (x2 ||| v_9) (fun v_10 => xbd (x3 - (1 : Int32)) (fun v_11 => xob (g_X7_place S v_8 v_10 v_11) (fun S_12 v_13 => f_X7_place_86 g_X7_place x1 x2 x3 x4 x5 S_12))))))))))))))
def f_X7_place_0 (g_X7_place : xSt → Int32 → Int32 → Int32 → Option (xSt × Unit)) (x1 : Int32) (x2 : Int32) (x3 : Int32) (S : xSt) : Option (xSt × Unit) :=
  if ¬ x1 = 0 then (if 0 < x3 then (xob (f_X11_lowestBit S x1) (fun S_3 v_4 => xlp (fun q : (xSt × Int32) => f_X7_place_40 g_X7_place x1 x2 x3 v_4 q.1 q.2) 5000 (S_3, (0 : Int32)))) else (some (S, ()))) else (xbd (S.1 87 2) (fun v_5 => if v_5 = (-1 : Int32) then (f_X7_place_20 g_X7_place x2 S) else (xbd (S.1 87 2) (fun v_7 => if v_7 ≤ x2 then (some (S, ())) else (f_X7_place_20 g_X7_place x2 S)))))
def F_X7_place : Nat → (xSt → Int32 → Int32 → Int32 → Option (xSt × Unit))
  | 0 => ((fun _ _ _ _ => none))
  | d + 1 => ((fun S x1 x2 x3 => f_X7_place_0 ((F_X7_place d)) x1 x2 x3 S))
def f_X7_place (d : Nat) : xSt → Int32 → Int32 → Int32 → Option (xSt × Unit) := (F_X7_place d)
def f_X7_fewest_69 (x1 : Int32) (x2 : Int32) (x3 : Int32) (S : xSt) : Option ((xSt × Int32 × Int32) ⊕ (xSt × Int32)) :=
  xbd (x3 + (1 : Int32)) (fun v_1 => some (.inl (S, x2, v_1)))
def f_X7_fewest_38 (x1 : Int32) (x2 : Int32) (x3 : Int32) (y1 : Int32) (y2 : Int32) (S : xSt) : Option ((xSt × Int32 × Int32) ⊕ (xSt × Int32)) :=
  xgd (xin y1 30) (xbd (xsi S 88 y1.toNatClampNeg y2) (fun S_1 => xob (f_X4_has 16 S_1 x3) (fun S_2 v_3 => if v_3 = 0 then (f_X7_fewest_69 x1 x2 x3 S_2) else (xgd (xin x3 30) (xbd (S_2.1 (16 + 4) x3.toNatClampNeg) (fun v_5 => if v_5 < x1 then (f_X7_fewest_69 x1 x2 x3 S_2) else (xbd ((1 : Int32) <<< (x3 &&& 31)) (fun v_7 => xbd (x2 ||| v_7) (fun v_8 => f_X7_fewest_69 x1 v_8 x3 S_2)))))))))
def f_X7_fewest_82 (x2 : Int32) (S : xSt) (x3 : Int32) : Option ((xSt × Int32) ⊕ (xSt × Int32)) :=
  if (4 : Int32) < x3 then (some (.inr (S, (-2 : Int32)))) else (xob (f_X7_place 6 S x2 (0 : Int32) x3) (fun S_2 v_3 => xbd (S_2.1 87 2) (fun v_4 => if v_4 = (-1 : Int32) then (xbd (x3 + (1 : Int32)) (fun v_6 => some (.inl (S_2, v_6)))) else (some (.inr (S_2, x3))))))
def f_X7_fewest_75 (x2 : Int32) (S : xSt) : Option (xSt × Int32) :=
  xbd (xsi S 87 2 (-1 : Int32)) (fun S_1 => xlp (fun q : (xSt × Int32) => f_X7_fewest_82 x2 q.1 q.2) 5000 (S_1, (0 : Int32)))
def f_X7_fewest_4 (x1 : Int32) (S : xSt) (x2 : Int32) (x3 : Int32) : Option ((xSt × Int32 × Int32) ⊕ (xSt × Int32)) :=
  if (30 : Int32) ≤ x3 then (xmr (f_X7_fewest_75 x2 S)) else (xob (f_X4_has 16 S x3) (fun S_2 v_3 => if v_3 = 0 then (f_X7_fewest_38 x1 x2 x3 x3 ((0 : Int32)) S_2) else (xob (f_X4_around 16 S_2 x3) (fun S_5 v_6 => f_X7_fewest_38 x1 x2 x3 x3 v_6 S_5))))
def f_X7_fewest_0 (x1 : Int32) (S : xSt) : Option (xSt × Int32) :=
  xlp (fun q : (xSt × Int32 × Int32) => f_X7_fewest_4 x1 q.1 q.2.1 q.2.2) 5000 (S, (0 : Int32), (0 : Int32))
def f_X7_fewest (S : xSt) (x1 : Int32) : Option (xSt × Int32) := f_X7_fewest_0 x1 S
def f_X8_holdRow_17 (o : Nat) (S : xSt) (x3 : Int32) : Option ((xSt × Int32) ⊕ (xSt × Unit)) :=
  if (60 : Int32) ≤ x3 then (some (.inr (S, ()))) else (xgd (xin x3 60) (xbd (xsl S (o + 1) x3.toNatClampNeg (0 : Int64)) (fun S_2 => xbd (x3 + (1 : Int32)) (fun v_3 => some (.inl (S_2, v_3))))))
def f_X8_holdRow_0 (o : Nat) (x1 : Int32) (x2 : Int32) (S : xSt) : Option (xSt × Unit) :=
  xbd (xsi S o 0 (2 : Int32)) (fun S_1 => xbd (xsi S_1 o 2 x1) (fun S_2 => xbd (xsi S_2 o 3 x2) (fun S_3 => xlp (fun q : (xSt × Int32) => f_X8_holdRow_17 o q.1 q.2) 5000 (S_3, (0 : Int32)))))
def f_X8_holdRow (o : Nat) (S : xSt) (x1 : Int32) (x2 : Int32) : Option (xSt × Unit) := f_X8_holdRow_0 o x1 x2 S
def f_X8_refusalOfBytes_29 (o : Nat) (S : xSt) : Option (xSt × Int32) :=
  some (S, (-12 : Int32))
def f_X8_refusalOfBytes_0 (o : Nat) (S : xSt) : Option (xSt × Int32) :=
  xbd (S.1 o 0) (fun v_1 => if ¬ v_1 = 0 then (xbd (S.1 o 0) (fun v_3 => if ¬ v_3 = (2 : Int32) then (f_X8_refusalOfBytes_29 o S) else (xbd (S.1 o 2) (fun v_5 => if ¬ v_5 = 0 then (f_X8_refusalOfBytes_29 o S) else (some (S, (0 : Int32))))))) else (some (S, (-11 : Int32))))
def f_X8_refusalOfBytes (o : Nat) (S : xSt) : Option (xSt × Int32) := f_X8_refusalOfBytes_0 o S
def f_X8_refusalOfPlace_37 (o : Nat) (S : xSt) : Option (xSt × Int32) :=
  some (S, (-13 : Int32))
def f_X8_refusalOfPlace_0 (o : Nat) (x1 : Int32) (S : xSt) : Option (xSt × Int32) :=
  xbd (S.1 o 0) (fun v_1 => if ¬ v_1 = 0 then (xbd (S.1 o 0) (fun v_3 => if v_3 = (2 : Int32) then (if x1 < 0 then (f_X8_refusalOfPlace_37 o S) else (xbd (S.1 o 3) (fun v_6 => if v_6 ≤ x1 then (f_X8_refusalOfPlace_37 o S) else (some (S, (0 : Int32)))))) else (some (S, (-12 : Int32))))) else (some (S, (-11 : Int32))))
def f_X8_refusalOfPlace (o : Nat) (S : xSt) (x1 : Int32) : Option (xSt × Int32) := f_X8_refusalOfPlace_0 o x1 S
def f_X8_store_100 (o : Nat) (y1 : Int32) (y2 : Int64) (S : xSt) : Option (xSt × Unit) :=
  xgd (xin y1 60) (xbd (xsl S (o + 1) y1.toNatClampNeg y2) (fun S_1 => some (S_1, ())))
def f_X8_store_0 (o : Nat) (x1 : Int32) (x2 : Int64) (S : xSt) : Option (xSt × Unit) :=
  xbd (S.1 o 2) (fun v_1 => if v_1 = (0 : Int32) then (xbd (x2.toInt32) (fun v_3 => xbd (v_3.toInt8.toInt32) (fun v_4 => xbd (v_4.toInt64) (fun v_5 => xgd (xin x1 60) (xbd (xsl S (o + 1) x1.toNatClampNeg v_5) (fun S_6 => some (S_6, ()))))))) else (if v_1 = (1 : Int32) then (xbd (x2.toInt32) (fun v_8 => xbd (v_8.toInt16.toInt32) (fun v_9 => xbd (v_9.toInt64) (fun v_10 => xgd (xin x1 60) (xbd (xsl S (o + 1) x1.toNatClampNeg v_10) (fun S_11 => some (S_11, ()))))))) else (if v_1 = (2 : Int32) then (xbd (x2.toInt32) (fun v_13 => xbd (v_13.toInt64) (fun v_14 => xgd (xin x1 60) (xbd (xsl S (o + 1) x1.toNatClampNeg v_14) (fun S_15 => some (S_15, ())))))) else (if v_1 = (3 : Int32) then (xgd (xin x1 60) (xbd (xsl S (o + 1) x1.toNatClampNeg x2) (fun S_17 => some (S_17, ())))) else (xbd (lg_cmp x2 (0 : Int64)) (fun v_18 => if v_18 = 0 then (f_X8_store_100 o x1 ((0 : Int64)) S) else (f_X8_store_100 o x1 ((1 : Int64)) S)))))))
def f_X8_store (o : Nat) (S : xSt) (x1 : Int32) (x2 : Int64) : Option (xSt × Unit) := f_X8_store_0 o x1 x2 S
def f_X9_add_0 (x1 : Int32) (S : xSt) : Option (xSt × Int32) :=
  xbd (S.1 2 1) (fun v_1 => if v_1 < (120 : Int32) then (xbd (S.1 2 1) (fun v_3 => xgd (xin v_3 120) (xbd (xsi S 3 v_3.toNatClampNeg x1) (fun S_4 => xbd (S_4.1 2 1) (fun v_5 => xbd (v_5 + (1 : Int32)) (fun v_6 => xbd (xsi S_4 2 1 v_6) (fun S_7 => xbd (S_7.1 2 1) (fun v_8 => some (S_7, v_8))))))))) else (some (S, (-3 : Int32))))
def f_X9_add (S : xSt) (x1 : Int32) : Option (xSt × Int32) := f_X9_add_0 x1 S
def f_X9_clear_0 (S : xSt) : Option (xSt × Unit) :=
  xbd (xsi S 2 1 (0 : Int32)) (fun S_1 => some (S_1, ()))
def f_X9_clear (S : xSt) : Option (xSt × Unit) := f_X9_clear_0 S
def f_X9_next_30 (S : xSt) : Option (xSt × Int32) :=
  some (S, (-1 : Int32))
def f_X9_next_0 (S : xSt) : Option (xSt × Int32) :=
  xbd (S.1 2 9) (fun v_1 => if 0 ≤ v_1 then (f_X9_next_30 S) else (xbd (S.1 2 8) (fun v_3 => xbd (S.1 2 1) (fun v_4 => if v_4 ≤ v_3 then (f_X9_next_30 S) else (xbd (S.1 2 8) (fun v_6 => xgd (xin v_6 120) (xbd (S.1 3 v_6.toNatClampNeg) (fun v_7 => some (S, v_7)))))))))
def f_X9_next (S : xSt) : Option (xSt × Int32) := f_X9_next_0 S
def f_X9_nameOf_0 (x0 : Int32) (S : xSt) : Option (xSt × Int32) :=
  if x0 = (97 : Int32) then (some (S, (2 : Int32))) else (if x0 = (98 : Int32) then (some (S, (-1 : Int32))) else (if x0 = (99 : Int32) then (some (S, (-1 : Int32))) else (if x0 = (100 : Int32) then (some (S, (0 : Int32))) else (if x0 = (101 : Int32) then (some (S, (-1 : Int32))) else (if x0 = (102 : Int32) then (some (S, (-1 : Int32))) else (if x0 = (103 : Int32) then (some (S, (-1 : Int32))) else (if x0 = (104 : Int32) then (some (S, (1 : Int32))) else (if x0 = (105 : Int32) then (some (S, (-1 : Int32))) else (if x0 = (106 : Int32) then (some (S, (-1 : Int32))) else (if x0 = (107 : Int32) then (some (S, (-1 : Int32))) else (if x0 = (108 : Int32) then (some (S, (5 : Int32))) else (if x0 = (109 : Int32) then (some (S, (-1 : Int32))) else (if x0 = (110 : Int32) then (some (S, (4 : Int32))) else (if x0 = (111 : Int32) then (some (S, (-1 : Int32))) else (if x0 = (112 : Int32) then (some (S, (-1 : Int32))) else (if x0 = (113 : Int32) then (some (S, (-1 : Int32))) else (if x0 = (114 : Int32) then (some (S, (-1 : Int32))) else (if x0 = (115 : Int32) then (some (S, (3 : Int32))) else (some (S, (-1 : Int32)))))))))))))))))))))
def f_X9_nameOf (S : xSt) (x0 : Int32) : Option (xSt × Int32) := f_X9_nameOf_0 x0 S
def f_X9_emit_0 (x1 : Int32) (x2 : Int32) (S : xSt) : Option (xSt × Unit) :=
  xbd (S.1 2 4) (fun v_1 => if (120 : Int32) ≤ v_1 then (some (S, ())) else (xbd (S.1 2 4) (fun v_3 => xgd (xin v_3 120) (xbd (xsi S 4 v_3.toNatClampNeg x1) (fun S_4 => xbd (S_4.1 2 4) (fun v_5 => xgd (xin v_5 120) (xbd (xsi S_4 5 v_5.toNatClampNeg x2) (fun S_6 => xbd (S_6.1 2 4) (fun v_7 => xbd (v_7 + (1 : Int32)) (fun v_8 => xbd (xsi S_6 2 4 v_8) (fun S_9 => some (S_9, ()))))))))))))
def f_X9_emit (S : xSt) (x1 : Int32) (x2 : Int32) : Option (xSt × Unit) := f_X9_emit_0 x1 x2 S
def f_X9_readNumber_56 (x1 : Int32) (S : xSt) : Option (xSt × Unit) :=
  xob (f_X9_emit S (35 : Int32) x1) (fun S_1 v_2 => some (S_1, ()))
def f_X9_readNumber_4 (S : xSt) (x1 : Int32) (x2 : Int32) : Option ((xSt × Int32 × Int32) ⊕ (xSt × Unit)) :=
  if (4 : Int32) ≤ x2 then (xmr (f_X9_readNumber_56 x1 S)) else (xob (f_X9_next S) (fun S_2 v_3 => if v_3 < (48 : Int32) then (xmr (f_X9_readNumber_56 x1 S_2)) else (xob (f_X9_next S_2) (fun S_5 v_6 => if (57 : Int32) < v_6 then (xmr (f_X9_readNumber_56 x1 S_5)) else (xbd ((10 : Int32) * x1) (fun v_8 => xob (f_X9_next S_5) (fun S_9 v_10 => xbd (v_8 + v_10) (fun v_11 => xbd (v_11 - (48 : Int32)) (fun v_12 => xbd (S_9.1 2 8) (fun v_13 => xbd (v_13 + (1 : Int32)) (fun v_14 => xbd (xsi S_9 2 8 v_14) (fun S_15 => xbd (x2 + (1 : Int32)) (fun v_16 => some (.inl (S_15, v_12, v_16)))))))))))))))
def f_X9_readNumber_0 (S : xSt) : Option (xSt × Unit) :=
  xlp (fun q : (xSt × Int32 × Int32) => f_X9_readNumber_4 q.1 q.2.1 q.2.2) 5000 (S, (0 : Int32), (0 : Int32))
def f_X9_readNumber (S : xSt) : Option (xSt × Unit) := f_X9_readNumber_0 S
def f_X9_failHere_0 (S : xSt) : Option (xSt × Unit) :=
  xbd (S.1 2 9) (fun v_1 => if 0 ≤ v_1 then (some (S, ())) else (xbd (S.1 2 8) (fun v_3 => xbd (xsi S 2 9 v_3) (fun S_4 => some (S_4, ())))))
def f_X9_failHere (S : xSt) : Option (xSt × Unit) := f_X9_failHere_0 S
def f_X9_levelOf_0 (x0 : Int32) (S : xSt) : Option (xSt × Int32) :=
  if x0 = (37 : Int32) then (some (S, (4 : Int32))) else (if x0 = (38 : Int32) then (some (S, (1 : Int32))) else (if x0 = (42 : Int32) then (some (S, (4 : Int32))) else (if x0 = (43 : Int32) then (some (S, (3 : Int32))) else (if x0 = (45 : Int32) then (some (S, (3 : Int32))) else (if x0 = (47 : Int32) then (some (S, (4 : Int32))) else (if x0 = (60 : Int32) then (some (S, (2 : Int32))) else (if x0 = (61 : Int32) then (some (S, (2 : Int32))) else (if x0 = (62 : Int32) then (some (S, (2 : Int32))) else (if x0 = (124 : Int32) then (some (S, (0 : Int32))) else (some (S, (-1 : Int32))))))))))))
def f_X9_levelOf (S : xSt) (x0 : Int32) : Option (xSt × Int32) := f_X9_levelOf_0 x0 S
def f_X9_readLevel_34 (g_X9_readLevel : xSt → Int32 → Int32 → Option (xSt × Unit)) (g_X9_readOpened : xSt → Int32 → Int32 → Option (xSt × Unit)) (g_X9_readUnit : xSt → Int32 → Option (xSt × Unit)) (x1 : Int32) (x2 : Int32) (x3 : Int32) (S : xSt) (x4 : Int32) : Option ((xSt × Int32) ⊕ (xSt × Unit)) :=
  if x3 ≤ x4 then (some (.inr (S, ()))) else (xob (f_X9_next S) (fun S_2 v_3 => xob (f_X9_levelOf S_2 v_3) (fun S_4 v_5 => if ¬ v_5 = x1 then (some (.inr (S_4, ()))) else (xob (f_X9_next S_4) (fun S_7 v_8 => xbd (S_7.1 2 8) (fun v_9 => xbd (v_9 + (1 : Int32)) (fun v_10 => xbd (xsi S_7 2 8 v_10) (fun S_11 => xbd (x1 + (1 : Int32)) (fun v_12 => xob (g_X9_readLevel S_11 v_12 x2) (fun S_13 v_14 => xob (f_X9_emit S_13 v_8 (0 : Int32)) (fun S_15 v_16 => xbd (x4 + (1 : Int32)) (fun v_17 => some (.inl (S_15, v_17))))))))))))))
def f_X9_readLevel_30 (g_X9_readLevel : xSt → Int32 → Int32 → Option (xSt × Unit)) (g_X9_readOpened : xSt → Int32 → Int32 → Option (xSt × Unit)) (g_X9_readUnit : xSt → Int32 → Option (xSt × Unit)) (x1 : Int32) (x2 : Int32) (y0 : Int32) (S : xSt) : Option (xSt × Unit) :=
  xlp (fun q : (xSt × Int32) => f_X9_readLevel_34 g_X9_readLevel g_X9_readOpened g_X9_readUnit x1 x2 y0 q.1 q.2) 5000 (S, (0 : Int32))
def f_X9_readLevel_0 (g_X9_readLevel : xSt → Int32 → Int32 → Option (xSt × Unit)) (g_X9_readOpened : xSt → Int32 → Int32 → Option (xSt × Unit)) (g_X9_readUnit : xSt → Int32 → Option (xSt × Unit)) (x1 : Int32) (x2 : Int32) (S : xSt) : Option (xSt × Unit) :=
  if x1 < (5 : Int32) then (xbd (x1 + (1 : Int32)) (fun v_2 => xob (g_X9_readLevel S v_2 x2) (fun S_3 v_4 => if ¬ x1 = (2 : Int32) then (f_X9_readLevel_30 g_X9_readLevel g_X9_readOpened g_X9_readUnit x1 x2 ((120 : Int32)) S_3) else (f_X9_readLevel_30 g_X9_readLevel g_X9_readOpened g_X9_readUnit x1 x2 ((1 : Int32)) S_3)))) else (xob (g_X9_readUnit S x2) (fun S_6 v_7 => some (S_6, ())))
def f_X9_readOpened_60 (g_X9_readLevel : xSt → Int32 → Int32 → Option (xSt × Unit)) (g_X9_readOpened : xSt → Int32 → Int32 → Option (xSt × Unit)) (g_X9_readUnit : xSt → Int32 → Option (xSt × Unit)) (y1 : Int32) (S : xSt) : Option (xSt × Unit) :=
  xob (f_X9_emit S y1 (0 : Int32)) (fun S_1 v_2 => some (S_1, ()))
def f_X9_readOpened_0 (g_X9_readLevel : xSt → Int32 → Int32 → Option (xSt × Unit)) (g_X9_readOpened : xSt → Int32 → Int32 → Option (xSt × Unit)) (g_X9_readUnit : xSt → Int32 → Option (xSt × Unit)) (x1 : Int32) (x2 : Int32) (S : xSt) : Option (xSt × Unit) :=
  if ¬ x1 = (40 : Int32) then (xob (g_X9_readUnit S x2) (fun S_2 v_3 => if ¬ x1 = (33 : Int32) then (f_X9_readOpened_60 g_X9_readLevel g_X9_readOpened g_X9_readUnit ((126 : Int32)) S_2) else (f_X9_readOpened_60 g_X9_readLevel g_X9_readOpened g_X9_readUnit ((33 : Int32)) S_2))) else (xob (g_X9_readLevel S (0 : Int32) x2) (fun S_5 v_6 => xob (f_X9_next S_5) (fun S_7 v_8 => if ¬ v_8 = (41 : Int32) then (xob (f_X9_failHere S_7) (fun S_10 v_11 => some (S_10, ()))) else (xbd (S_7.1 2 8) (fun v_12 => xbd (v_12 + (1 : Int32)) (fun v_13 => xbd (xsi S_7 2 8 v_13) (fun S_14 => some (S_14, ()))))))))
def f_X9_readUnit_98 (g_X9_readLevel : xSt → Int32 → Int32 → Option (xSt × Unit)) (g_X9_readOpened : xSt → Int32 → Int32 → Option (xSt × Unit)) (g_X9_readUnit : xSt → Int32 → Option (xSt × Unit)) (S : xSt) : Option (xSt × Unit) :=
  xob (f_X9_failHere S) (fun S_1 v_2 => some (S_1, ()))
def f_X9_readUnit_71 (g_X9_readLevel : xSt → Int32 → Int32 → Option (xSt × Unit)) (g_X9_readOpened : xSt → Int32 → Int32 → Option (xSt × Unit)) (g_X9_readUnit : xSt → Int32 → Option (xSt × Unit)) (x1 : Int32) (x2 : Int32) (S : xSt) : Option (xSt × Unit) :=
  if (6 : Int32) ≤ x1 then (f_X9_readUnit_98 g_X9_readLevel g_X9_readOpened g_X9_readUnit S) else (xbd (S.1 2 8) (fun v_2 => xbd (v_2 + (1 : Int32)) (fun v_3 => xbd (xsi S 2 8 v_3) (fun S_4 => xbd (x1 + (1 : Int32)) (fun v_5 => xob (g_X9_readOpened S_4 x2 v_5) (fun S_6 v_7 => some (S_6, ())))))))
def f_X9_readUnit_29 (g_X9_readLevel : xSt → Int32 → Int32 → Option (xSt × Unit)) (g_X9_readOpened : xSt → Int32 → Int32 → Option (xSt × Unit)) (g_X9_readUnit : xSt → Int32 → Option (xSt × Unit)) (x1 : Int32) (x2 : Int32) (x3 : Int32) (S : xSt) : Option (xSt × Unit) :=
  if x3 < 0 then (if x2 = (40 : Int32) then (f_X9_readUnit_71 g_X9_readLevel g_X9_readOpened g_X9_readUnit x1 x2 S) else (if x2 = (33 : Int32) then (f_X9_readUnit_71 g_X9_readLevel g_X9_readOpened g_X9_readUnit x1 x2 S) else (if ¬ x2 = (45 : Int32) then (f_X9_readUnit_98 g_X9_readLevel g_X9_readOpened g_X9_readUnit S) else (f_X9_readUnit_71 g_X9_readLevel g_X9_readOpened g_X9_readUnit x1 x2 S)))) else (xbd (S.1 2 8) (fun v_5 => xbd (v_5 + (1 : Int32)) (fun v_6 => xbd (xsi S 2 8 v_6) (fun S_7 => xob (f_X9_emit S_7 (64 : Int32) x3) (fun S_8 v_9 => some (S_8, ()))))))
def f_X9_readUnit_0 (g_X9_readLevel : xSt → Int32 → Int32 → Option (xSt × Unit)) (g_X9_readOpened : xSt → Int32 → Int32 → Option (xSt × Unit)) (g_X9_readUnit : xSt → Int32 → Option (xSt × Unit)) (x1 : Int32) (S : xSt) : Option (xSt × Unit) :=
  xob (f_X9_next S) (fun S_1 v_2 => xob (f_X9_nameOf S_1 v_2) (fun S_3 v_4 => if v_2 < (48 : Int32) then (f_X9_readUnit_29 g_X9_readLevel g_X9_readOpened g_X9_readUnit x1 v_2 v_4 S_3) else (if (57 : Int32) < v_2 then (f_X9_readUnit_29 g_X9_readLevel g_X9_readOpened g_X9_readUnit x1 v_2 v_4 S_3) else (xob (f_X9_readNumber S_3) (fun S_7 v_8 => some (S_7, ()))))))
def F_X9_readLevel : Nat → (xSt → Int32 → Int32 → Option (xSt × Unit)) × (xSt → Int32 → Int32 → Option (xSt × Unit)) × (xSt → Int32 → Option (xSt × Unit))
  | 0 => ((fun _ _ _ => none), (fun _ _ _ => none), (fun _ _ => none))
  | d + 1 => ((fun S x1 x2 => f_X9_readLevel_0 ((F_X9_readLevel d).1) ((F_X9_readLevel d).2.1) ((F_X9_readLevel d).2.2) x1 x2 S), (fun S x1 x2 => f_X9_readOpened_0 ((F_X9_readLevel d).1) ((F_X9_readLevel d).2.1) ((F_X9_readLevel d).2.2) x1 x2 S), (fun S x1 => f_X9_readUnit_0 ((F_X9_readLevel d).1) ((F_X9_readLevel d).2.1) ((F_X9_readLevel d).2.2) x1 S))
def f_X9_readLevel (d : Nat) : xSt → Int32 → Int32 → Option (xSt × Unit) := (F_X9_readLevel d).1
def f_X9_readOpened (d : Nat) : xSt → Int32 → Int32 → Option (xSt × Unit) := (F_X9_readLevel d).2.1
def f_X9_readUnit (d : Nat) : xSt → Int32 → Option (xSt × Unit) := (F_X9_readLevel d).2.2
def f_X9_readLine_41 (x1 : Int32) (S : xSt) : Option (xSt × Unit) :=
  xbd (S.1 2 7) (fun v_1 => if (120 : Int32) ≤ v_1 then (some (S, ())) else (xbd (S.1 2 7) (fun v_3 => xgd (xin v_3 120) (xbd (xsi S 6 v_3.toNatClampNeg x1) (fun S_4 => xbd (S_4.1 2 7) (fun v_5 => xbd (S_4.1 2 4) (fun v_6 => xgd (xin v_5 120) (xbd (xsi S_4 7 v_5.toNatClampNeg v_6) (fun S_7 => xbd (S_7.1 2 7) (fun v_8 => xbd (v_8 + (1 : Int32)) (fun v_9 => xbd (xsi S_7 2 7 v_9) (fun S_10 => some (S_10, ())))))))))))))
def f_X9_readLine_0 (S : xSt) : Option (xSt × Unit) :=
  xbd (S.1 2 4) (fun v_1 => xob (f_X9_readLevel 70 S (0 : Int32) (0 : Int32)) (fun S_2 v_3 => xob (f_X9_next S_2) (fun S_4 v_5 => if ¬ v_5 = (63 : Int32) then (f_X9_readLine_41 v_1 S_4) else (xbd (S_4.1 2 8) (fun v_7 => xbd (v_7 + (1 : Int32)) (fun v_8 => xbd (xsi S_4 2 8 v_8) (fun S_9 => xbd (S_9.1 2 4) (fun v_10 => xob (f_X9_readLevel 70 S_9 (0 : Int32) (0 : Int32)) (fun S_11 v_12 => f_X9_readLine_41 v_10 S_11)))))))))
def f_X9_readLine (S : xSt) : Option (xSt × Unit) := f_X9_readLine_0 S
def f_X9_understand_67 (x1 : Int32) (x2 : Int32) (S : xSt) : Option ((xSt × Int32 × Int32) ⊕ (xSt × Int32)) :=
  xbd (x2 + (1 : Int32)) (fun v_1 => some (.inl (S, x1, v_1)))
def f_X9_understand_52 (x2 : Int32) (y0 : Int32) (S : xSt) : Option ((xSt × Int32 × Int32) ⊕ (xSt × Int32)) :=
  if y0 = 0 then (f_X9_understand_67 y0 x2 S) else (xbd (S.1 2 8) (fun v_2 => xbd (v_2 + (1 : Int32)) (fun v_3 => xbd (xsi S 2 8 v_3) (fun S_4 => f_X9_understand_67 y0 x2 S_4))))
def f_X9_understand_73 (S : xSt) : Option (xSt × Int32) :=
  xbd (S.1 2 8) (fun v_1 => xbd (S.1 2 1) (fun v_2 => if v_2 ≤ v_1 then (xbd (S.1 2 9) (fun v_4 => some (S, v_4))) else (xob (f_X9_failHere S) (fun S_5 v_6 => xbd (S_5.1 2 9) (fun v_7 => some (S_5, v_7))))))
def f_X9_understand_24 (S : xSt) (x1 : Int32) (x2 : Int32) : Option ((xSt × Int32 × Int32) ⊕ (xSt × Int32)) :=
  if (120 : Int32) < x2 then (xmr (f_X9_understand_73 S)) else (if x1 = 0 then (xmr (f_X9_understand_73 S)) else (xob (f_X9_readLine S) (fun S_3 v_4 => xob (f_X9_next S_3) (fun S_5 v_6 => if ¬ v_6 = (59 : Int32) then (f_X9_understand_52 x2 ((0 : Int32)) S_5) else (f_X9_understand_52 x2 ((1 : Int32)) S_5)))))
def f_X9_understand_0 (S : xSt) : Option (xSt × Int32) :=
  xbd (xsi S 2 4 (0 : Int32)) (fun S_1 => xbd (xsi S_1 2 7 (0 : Int32)) (fun S_2 => xbd (xsi S_2 2 8 (0 : Int32)) (fun S_3 => xbd (xsi S_3 2 9 (-1 : Int32)) (fun S_4 => xlp (fun q : (xSt × Int32 × Int32) => f_X9_understand_24 q.1 q.2.1 q.2.2) 5000 (S_4, (1 : Int32), (0 : Int32))))))
def f_X9_understand (S : xSt) : Option (xSt × Int32) := f_X9_understand_0 S
def f_X10_behind_13 (x1 : Int32) (S : xSt) (x2 : Int32) : Option ((xSt × Int32) ⊕ (xSt × Nat)) :=
  if x1 ≤ x2 then (some (.inr (S, 36))) else (xob (f_X4_passDay 36 S) (fun S_2 v_3 => xbd (x2 + (1 : Int32)) (fun v_4 => some (.inl (S_2, v_4)))))
def f_X10_behind_0 (x1 : Int32) (S : xSt) : Option (xSt × Nat) :=
  xob (f_X4_takeAll 36 16 S) (fun S_1 v_2 => xlp (fun q : (xSt × Int32) => f_X10_behind_13 x1 q.1 q.2) 5000 (S_1, (0 : Int32)))
def f_X10_behind (S : xSt) (x1 : Int32) : Option (xSt × Nat) := f_X10_behind_0 x1 S
def f_X10_firstDay_42 (x1 : Int32) (x2 : Int32) (x3 : Int32) (y0 : Int32) (S : xSt) : Option ((xSt × Int32) ⊕ (xSt × Int32)) :=
  if y0 < x2 then (xob (f_X4_passDay 36 S) (fun S_2 v_3 => xbd (x3 + (1 : Int32)) (fun v_4 => some (.inl (S_2, v_4))))) else (some (.inr (S, x3)))
def f_X10_firstDay_13 (x1 : Int32) (x2 : Int32) (S : xSt) (x3 : Int32) : Option ((xSt × Int32) ⊕ (xSt × Int32)) :=
  if (40 : Int32) < x3 then (some (.inr (S, (-2 : Int32)))) else (if 0 ≤ x1 then (xgd (xin x1 30) (xbd (S.1 (36 + 4) x1.toNatClampNeg) (fun v_3 => f_X10_firstDay_42 x1 x2 x3 v_3 S))) else (xob (f_X4_hottestHeat 36 S) (fun S_4 v_5 => f_X10_firstDay_42 x1 x2 x3 v_5 S_4)))
def f_X10_firstDay_0 (x1 : Int32) (x2 : Int32) (S : xSt) : Option (xSt × Int32) :=
  xob (f_X4_takeAll 36 16 S) (fun S_1 v_2 => xlp (fun q : (xSt × Int32) => f_X10_firstDay_13 x1 x2 q.1 q.2) 5000 (S_1, (0 : Int32)))
def f_X10_firstDay (S : xSt) (x1 : Int32) (x2 : Int32) : Option (xSt × Int32) := f_X10_firstDay_0 x1 x2 S
def f_X10_forget_0 (S : xSt) : Option (xSt × Unit) :=
  xbd (xsi S 86 2 (-2 : Int32)) (fun S_1 => xbd (xsi S_1 86 3 (-2 : Int32)) (fun S_2 => some (S_2, ())))
def f_X10_forget (S : xSt) : Option (xSt × Unit) := f_X10_forget_0 S
def f_X10_takeCooler_21 (x1 : Int32) (x2 : Int32) (S : xSt) : Option (xSt × Unit) :=
  xbd (xsi S 86 2 x1) (fun S_1 => xbd (xsi S_1 86 3 x2) (fun S_2 => some (S_2, ())))
def f_X10_takeCooler_0 (x1 : Int32) (x2 : Int32) (S : xSt) : Option (xSt × Unit) :=
  if x1 < 0 then (some (S, ())) else (xbd (S.1 86 2) (fun v_2 => if v_2 = (-2 : Int32) then (f_X10_takeCooler_21 x1 x2 S) else (xbd (S.1 86 2) (fun v_4 => if v_4 ≤ x1 then (some (S, ())) else (f_X10_takeCooler_21 x1 x2 S)))))
def f_X10_takeCooler (S : xSt) (x1 : Int32) (x2 : Int32) : Option (xSt × Unit) := f_X10_takeCooler_0 x1 x2 S
def f_X10_seekTurn_59 (x1 : Int32) (x2 : Int32) (x3 : Int32) (x4 : Int32) (S : xSt) : Option ((xSt × Int32) ⊕ ((xSt × Int32) ⊕ (xSt × Unit))) :=
  xbd (x4 + (1 : Int32)) (fun v_1 => some (.inl (S, v_1)))
def f_X10_seekTurn_78 (x1 : Int32) (x2 : Int32) (x3 : Int32) (S : xSt) : Option ((xSt × Int32) ⊕ (xSt × Unit)) :=
  xbd (x3 + (1 : Int32)) (fun v_1 => some (.inl (S, v_1)))
def f_X10_seekTurn_65 (x1 : Int32) (x2 : Int32) (x3 : Int32) (S : xSt) : Option ((xSt × Int32) ⊕ (xSt × Unit)) :=
  xob (f_X4_hottestBehind 36 S x2) (fun S_1 v_2 => xob (f_X10_takeCooler S_1 v_2 x3) (fun S_3 v_4 => f_X10_seekTurn_78 x1 x2 x3 S_3))
def f_X10_seekTurn_34 (x1 : Int32) (x2 : Int32) (x3 : Int32) (S : xSt) (x4 : Int32) : Option ((xSt × Int32) ⊕ ((xSt × Int32) ⊕ (xSt × Unit))) :=
  if (6 : Int32) ≤ x4 then (xmr (f_X10_seekTurn_65 x1 x2 x3 S)) else (xbd (x3 >>> (x4 &&& 31)) (fun v_2 => xbd (v_2 &&& (1 : Int32)) (fun v_3 => if v_3 = 0 then (f_X10_seekTurn_59 x1 x2 x3 x4 S) else (xob (f_X4_turnColumn 36 S x4) (fun S_5 v_6 => f_X10_seekTurn_59 x1 x2 x3 x4 S_5)))))
def f_X10_seekTurn_6 (x1 : Int32) (x2 : Int32) (S : xSt) (x3 : Int32) : Option ((xSt × Int32) ⊕ (xSt × Unit)) :=
  if (64 : Int32) ≤ x3 then (some (.inr (S, ()))) else (xob (f_J6_bitCount_0f7a4 S x3) (fun S_2 v_3 => if ¬ v_3 = x1 then (f_X10_seekTurn_78 x1 x2 x3 S_2) else (xob (f_X4_takeAll 36 16 S_2) (fun S_5 v_6 => xlp (fun q : (xSt × Int32) => f_X10_seekTurn_34 x1 x2 x3 q.1 q.2) 5000 (S_5, (0 : Int32))))))
def f_X10_seekTurn_0 (x1 : Int32) (x2 : Int32) (S : xSt) : Option (xSt × Unit) :=
  xob (f_X10_forget S) (fun S_1 v_2 => xlp (fun q : (xSt × Int32) => f_X10_seekTurn_6 x1 x2 q.1 q.2) 5000 (S_1, (0 : Int32)))
def f_X10_seekTurn (S : xSt) (x1 : Int32) (x2 : Int32) : Option (xSt × Unit) := f_X10_seekTurn_0 x1 x2 S
def f_X10_seekChimney_58 (x1 : Int32) (x2 : Int32) (S : xSt) : Option ((xSt × Int32) ⊕ (xSt × Unit)) :=
  xbd (x2 + (1 : Int32)) (fun v_1 => some (.inl (S, v_1)))
def f_X10_seekChimney_6 (x1 : Int32) (S : xSt) (x2 : Int32) : Option ((xSt × Int32) ⊕ (xSt × Unit)) :=
  if (6 : Int32) ≤ x2 then (some (.inr (S, ()))) else (xgd (xin x2 6) (xbd (S.1 (16 + 2) x2.toNatClampNeg) (fun v_2 => if ¬ v_2 = 0 then (f_X10_seekChimney_58 x1 x2 S) else (xob (f_X4_takeAll 36 16 S) (fun S_4 v_5 => xgd (xin x2 6) (xbd (xsi S_4 (36 + 2) x2.toNatClampNeg (1 : Int32)) (fun S_6 => xob (f_X4_hottestBehind 36 S_6 x1) (fun S_7 v_8 => xob (f_X10_takeCooler S_7 v_8 x2) (fun S_9 v_10 => f_X10_seekChimney_58 x1 x2 S_9)))))))))
def f_X10_seekChimney_0 (x1 : Int32) (S : xSt) : Option (xSt × Unit) :=
  xob (f_X10_forget S) (fun S_1 v_2 => xlp (fun q : (xSt × Int32) => f_X10_seekChimney_6 x1 q.1 q.2) 5000 (S_1, (0 : Int32)))
def f_X10_seekChimney (S : xSt) (x1 : Int32) : Option (xSt × Unit) := f_X10_seekChimney_0 x1 S
def f_X10_staysDarkIfTurned_30 (S : xSt) (x2 : Int32) : Option ((xSt × Int32) ⊕ (xSt × Int32)) :=
  if (40 : Int32) < x2 then (xgd ((1 : Int32) = 0 ∨ (1 : Int32) = 1) (some (.inr (S, (1 : Int32))))) else (xob (f_X4_glowing 36 S) (fun S_2 v_3 => if v_3 ≤ 0 then (xob (f_X4_passDay 36 S_2) (fun S_5 v_6 => xbd (x2 + (1 : Int32)) (fun v_7 => some (.inl (S_5, v_7))))) else (xgd ((0 : Int32) = 0 ∨ (0 : Int32) = 1) (some (.inr (S_2, (0 : Int32)))))))
def f_X10_staysDarkIfTurned_28 (x1 : Int32) (S : xSt) : Option (xSt × Int32) :=
  xlp (fun q : (xSt × Int32) => f_X10_staysDarkIfTurned_30 q.1 q.2) 5000 (S, x1)
def f_X10_staysDarkIfTurned_8 (x1 : Int32) (S : xSt) (x2 : Int32) : Option ((xSt × Int32) ⊕ (xSt × Int32)) :=
  if (6 : Int32) ≤ x2 then (xmr (f_X10_staysDarkIfTurned_28 x1 S)) else (xob (f_X4_turnColumn 36 S x2) (fun S_2 v_3 => xbd (x2 + (1 : Int32)) (fun v_4 => some (.inl (S_2, v_4)))))
def f_X10_staysDarkIfTurned_0 (x1 : Int32) (S : xSt) : Option (xSt × Int32) :=
  xob (f_X10_behind S x1) (fun S_1 v_2 => xgd (v_2 = 36) (xlp (fun q : (xSt × Int32) => f_X10_staysDarkIfTurned_8 x1 q.1 q.2) 5000 (S_1, (0 : Int32))))
def f_X10_staysDarkIfTurned (S : xSt) (x1 : Int32) : Option (xSt × Int32) := f_X10_staysDarkIfTurned_0 x1 S
def f_X10_latestTurn_22 (S : xSt) (x2 : Int32) : Option ((xSt × Int32) ⊕ (xSt × Int32)) :=
  if x2 < 0 then (some (.inr (S, (-2 : Int32)))) else (xob (f_X10_staysDarkIfTurned S x2) (fun S_2 v_3 => if v_3 = 0 then (xbd (x2 + (-1 : Int32)) (fun v_5 => some (.inl (S_2, v_5)))) else (some (.inr (S_2, x2)))))
def f_X10_latestTurn_0 (S : xSt) : Option (xSt × Int32) :=
  xbd (S.1 16 10) (fun v_1 => xob (f_X10_firstDay S (-1 : Int32) v_1) (fun S_2 v_3 => xbd (v_3 - (1 : Int32)) (fun v_4 => xbd (if v_4 < (20 : Int32) then v_4 else (20 : Int32)) (fun v_5 => xlp (fun q : (xSt × Int32) => f_X10_latestTurn_22 q.1 q.2) 5000 (S_2, v_5)))))
def f_X10_latestTurn (S : xSt) : Option (xSt × Int32) := f_X10_latestTurn_0 S
def f_X10_seekSale_74 (x1 : Int32) (x2 : Int32) (x3 : Int32) (S : xSt) : Option ((xSt × Int32) ⊕ (xSt × Unit)) :=
  xbd (x3 + (1 : Int32)) (fun v_1 => some (.inl (S, v_1)))
def f_X10_seekSale_29 (x1 : Int32) (x2 : Int32) (S : xSt) (x3 : Int32) : Option ((xSt × Int32) ⊕ (xSt × Unit)) :=
  if x1 < x3 then (some (.inr (S, ()))) else (xob (f_X4_passDay 36 S) (fun S_2 v_3 => xob (f_X4_value 36 S_2) (fun S_4 v_5 => xbd (x2 * x3) (fun v_6 => xbd (v_5 - v_6) (fun v_7 => xbd (S_4.1 86 2) (fun v_8 => if v_7 ≤ v_8 then (f_X10_seekSale_74 x1 x2 x3 S_4) else (xbd (xsi S_4 86 2 v_7) (fun S_10 => xbd (xsi S_10 86 3 x3) (fun S_11 => f_X10_seekSale_74 x1 x2 x3 S_11)))))))))
def f_X10_seekSale_0 (x1 : Int32) (x2 : Int32) (S : xSt) : Option (xSt × Unit) :=
  xob (f_X4_takeAll 36 16 S) (fun S_1 v_2 => xob (f_X4_value 36 S_1) (fun S_3 v_4 => xbd (xsi S_3 86 2 v_4) (fun S_5 => xbd (xsi S_5 86 3 (0 : Int32)) (fun S_6 => xlp (fun q : (xSt × Int32) => f_X10_seekSale_29 x1 x2 q.1 q.2) 5000 (S_6, (1 : Int32))))))
def f_X10_seekSale (S : xSt) (x1 : Int32) (x2 : Int32) : Option (xSt × Unit) := f_X10_seekSale_0 x1 x2 S
def f_X11_within_14 (S : xSt) : Option (xSt × Int32) :=
  xgd ((0 : Int32) = 0 ∨ (0 : Int32) = 1) (some (S, (0 : Int32)))
def f_X11_within_0 (x0 : Int32) (x1 : Int32) (x2 : Int32) (S : xSt) : Option (xSt × Int32) :=
  if x0 < x1 then (f_X11_within_14 S) else (if x2 < x0 then (f_X11_within_14 S) else (xgd ((1 : Int32) = 0 ∨ (1 : Int32) = 1) (some (S, (1 : Int32)))))
def f_X11_within (S : xSt) (x0 : Int32) (x1 : Int32) (x2 : Int32) : Option (xSt × Int32) := f_X11_within_0 x0 x1 x2 S
def f_X11_cartOne_0 (x1 : Int32) (x2 : Int32) (x3 : Int32) (S : xSt) : Option (xSt × Int32) :=
  xob (f_X4_pileOn 16 S x1 x2 x3) (fun S_1 v_2 => if v_2 < 0 then (some (S_1, v_2)) else (xgd (xin (0 : Int32) 6) (xbd (S_1.1 (16 + 8) (0 : Int32).toNatClampNeg) (fun v_4 => xbd (v_4 + (1 : Int32)) (fun v_5 => xgd (xin (0 : Int32) 6) (xbd (xsi S_1 (16 + 8) (0 : Int32).toNatClampNeg v_5) (fun S_6 => some (S_6, v_2))))))))
def f_X11_cartOne (S : xSt) (x1 : Int32) (x2 : Int32) (x3 : Int32) : Option (xSt × Int32) := f_X11_cartOne_0 x1 x2 x3 S
def f_X11_cart_0 (x1 : Int32) (x2 : Int32) (S : xSt) : Option (xSt × Int32) :=
  xob (f_X11_within S x1 (0 : Int32) (5 : Int32)) (fun S_1 v_2 => if v_2 = 0 then (some (S_1, (-1 : Int32))) else (xob (f_X11_within S_1 x2 (0 : Int32) (99 : Int32)) (fun S_4 v_5 => if ¬ v_5 = 0 then (xgd (¬ (10 : Int32) = 0) (xbd (x2 / (10 : Int32)) (fun v_7 => xgd (¬ (10 : Int32) = 0) (xbd (x2 - x2 / (10 : Int32) * (10 : Int32)) (fun v_8 => xob (f_X11_cartOne S_4 x1 v_7 v_8) (fun S_9 v_10 => some (S_9, v_10))))))) else (some (S_4, (-1 : Int32))))))
def f_X11_cart (S : xSt) (x1 : Int32) (x2 : Int32) : Option (xSt × Int32) := f_X11_cart_0 x1 x2 S
def f_X11_isNumber_0 (x1 : Int32) (x2 : Int32) (S : xSt) : Option (xSt × Int32) :=
  xob (f_X11_within S x2 (0 : Int32) (7 : Int32)) (fun S_1 v_2 => if ¬ v_2 = 0 then (if (4 : Int32) < x2 then (if ¬ x2 = (5 : Int32) then (if ¬ x1 = 0 then (xgd ((0 : Int32) = 0 ∨ (0 : Int32) = 1) (some (S_1, (0 : Int32)))) else (xgd ((1 : Int32) = 0 ∨ (1 : Int32) = 1) (some (S_1, (1 : Int32))))) else (xob (f_X11_within S_1 x1 (0 : Int32) (5 : Int32)) (fun S_7 v_8 => xgd (v_8 = 0 ∨ v_8 = 1) (some (S_7, v_8))))) else (xob (f_X4_has 16 S_1 x1) (fun S_9 v_10 => xgd (v_10 = 0 ∨ v_10 = 1) (some (S_9, v_10))))) else (xgd ((0 : Int32) = 0 ∨ (0 : Int32) = 1) (some (S_1, (0 : Int32)))))
def f_X11_isNumber (S : xSt) (x1 : Int32) (x2 : Int32) : Option (xSt × Int32) := f_X11_isNumber_0 x1 x2 S
def f_X11_mend_0 (x1 : Int32) (x2 : Int32) (x3 : Int32) (S : xSt) : Option (xSt × Int32) :=
  xob (f_X11_isNumber S x1 x2) (fun S_1 v_2 => if v_2 = 0 then (some (S_1, (-1 : Int32))) else (xgd (xin x2 8) (xbd (xt_LEAST x2.toNatClampNeg) (fun v_4 => xgd (xin x2 8) (xbd (xt_MOST x2.toNatClampNeg) (fun v_5 => xob (f_X11_within S_1 x3 v_4 v_5) (fun S_6 v_7 => if ¬ v_7 = 0 then (xob (f_X4_numberOf 16 S_6 x1 x2) (fun S_9 v_10 => if v_10 = x3 then (some (S_9, v_10)) else (xob (f_X4_tell 16 S_9 x1 x2 x3) (fun S_12 v_13 => xob (f_X2_add S_12 x1 x2 v_10 x3) (fun S_14 v_15 => some (S_14, v_10)))))) else (some (S_6, (-1 : Int32))))))))))
def f_X11_mend (S : xSt) (x1 : Int32) (x2 : Int32) (x3 : Int32) : Option (xSt × Int32) := f_X11_mend_0 x1 x2 x3 S
def f_X11_of_0 (x1 : Int32) (x2 : Int32) (S : xSt) : Option (xSt × Int32) :=
  if ¬ x2 = (8 : Int32) then (xob (f_X11_isNumber S x1 x2) (fun S_2 v_3 => if v_3 = 0 then (some (S_2, (-1 : Int32))) else (xob (f_X4_numberOf 16 S_2 x1 x2) (fun S_5 v_6 => some (S_5, v_6))))) else (xob (f_X11_within S x1 (0 : Int32) (5 : Int32)) (fun S_7 v_8 => if v_8 = 0 then (some (S_7, (-1 : Int32))) else (xgd (xin x1 6) (xbd (S_7.1 (16 + 1) x1.toNatClampNeg) (fun v_10 => some (S_7, v_10))))))
def f_X11_of (S : xSt) (x1 : Int32) (x2 : Int32) : Option (xSt × Int32) := f_X11_of_0 x1 x2 S
def f_X11_feed_0 (x1 : Int32) (S : xSt) : Option (xSt × Int32) :=
  xob (f_X11_within S x1 (0 : Int32) (255 : Int32)) (fun S_1 v_2 => if v_2 = 0 then (some (S_1, (-1 : Int32))) else (xob (f_X9_add S_1 x1) (fun S_4 v_5 => some (S_4, v_5))))
def f_X11_feed (S : xSt) (x1 : Int32) : Option (xSt × Int32) := f_X11_feed_0 x1 S
def f_X11_law_23 (x1 : Int32) (S : xSt) : Option (xSt × Int32) :=
  xob (f_X9_clear S) (fun S_1 v_2 => if 0 ≤ x1 then (xbd ((-100 : Int32) - x1) (fun v_4 => some (S_1, v_4))) else (some (S_1, (1 : Int32))))
def f_X11_law_0 (S : xSt) : Option (xSt × Int32) :=
  xob (f_X9_understand S) (fun S_1 v_2 => if 0 ≤ v_2 then (f_X11_law_23 v_2 S_1) else (xob (f_X5_become S_1) (fun S_4 v_5 => f_X11_law_23 v_2 S_4)))
def f_X11_law (S : xSt) : Option (xSt × Int32) := f_X11_law_0 S
def f_X11_stack_0 (x1 : Int32) (x2 : Int32) (S : xSt) : Option (xSt × Int32) :=
  xob (f_X11_within S x1 (0 : Int32) (40 : Int32)) (fun S_1 v_2 => if v_2 = 0 then (some (S_1, (-1 : Int32))) else (xob (f_X11_within S_1 x2 (0 : Int32) (3 : Int32)) (fun S_4 v_5 => if ¬ v_5 = 0 then (xob (f_X10_behind S_4 x1) (fun S_7 v_8 => xgd (v_8 = 36) (if x2 = (0 : Int32) then (xob (f_X4_hottestCell 36 S_7) (fun S_10 v_11 => some (S_10, v_11))) else (if x2 = (1 : Int32) then (xob (f_X4_hottestHeat 36 S_7) (fun S_13 v_14 => some (S_13, v_14))) else (if x2 = (2 : Int32) then (xob (f_X4_glowing 36 S_7) (fun S_16 v_17 => some (S_16, v_17))) else (xob (f_X4_goodOfAll 36 S_7) (fun S_18 v_19 => some (S_18, v_19)))))))) else (some (S_4, (-1 : Int32))))))
def f_X11_stack (S : xSt) (x1 : Int32) (x2 : Int32) : Option (xSt × Int32) := f_X11_stack_0 x1 x2 S
def f_X11_rods_0 (x1 : Int32) (S : xSt) : Option (xSt × Int32) :=
  xob (f_X11_within S x1 (0 : Int32) (99 : Int32)) (fun S_1 v_2 => if v_2 = 0 then (some (S_1, (-1 : Int32))) else (xob (f_X7_fewest S_1 x1) (fun S_4 v_5 => some (S_4, v_5))))
def f_X11_rods (S : xSt) (x1 : Int32) : Option (xSt × Int32) := f_X11_rods_0 x1 S
def f_X11_rodsAt_0 (x1 : Int32) (S : xSt) : Option (xSt × Int64) :=
  xob (f_X11_within S x1 (0 : Int32) (99 : Int32)) (fun S_1 v_2 => if ¬ v_2 = 0 then (xob (f_X7_fewest S_1 x1) (fun S_4 v_5 => if ¬ v_5 = (-2 : Int32) then (xbd (S_4.1 87 2) (fun v_7 => xbd (v_7.toInt64) (fun v_8 => some (S_4, v_8)))) else (some (S_4, (-2 : Int64))))) else (some (S_1, (-9223372036854775808 : Int64))))
def f_X11_rodsAt (S : xSt) (x1 : Int32) : Option (xSt × Int64) := f_X11_rodsAt_0 x1 S
def f_X11_turn_0 (x1 : Int32) (x2 : Int32) (x3 : Int32) (S : xSt) : Option (xSt × Int32) :=
  xob (f_X11_within S x1 (0 : Int32) (3 : Int32)) (fun S_1 v_2 => if v_2 = 0 then (some (S_1, (-1 : Int32))) else (xob (f_X11_within S_1 x2 (0 : Int32) (20 : Int32)) (fun S_4 v_5 => if v_5 = 0 then (some (S_4, (-1 : Int32))) else (xob (f_X11_within S_4 x3 (0 : Int32) (1 : Int32)) (fun S_7 v_8 => if ¬ v_8 = 0 then (xob (f_X10_seekTurn S_7 x1 x2) (fun S_10 v_11 => if ¬ x3 = 0 then (xbd (S_10.1 86 3) (fun v_13 => some (S_10, v_13))) else (xbd (S_10.1 86 2) (fun v_14 => some (S_10, v_14))))) else (some (S_7, (-1 : Int32))))))))
def f_X11_turn (S : xSt) (x1 : Int32) (x2 : Int32) (x3 : Int32) : Option (xSt × Int32) := f_X11_turn_0 x1 x2 x3 S
def f_X11_chimney_0 (x1 : Int32) (x2 : Int32) (S : xSt) : Option (xSt × Int32) :=
  xob (f_X11_within S x1 (0 : Int32) (20 : Int32)) (fun S_1 v_2 => if v_2 = 0 then (some (S_1, (-1 : Int32))) else (xob (f_X11_within S_1 x2 (0 : Int32) (1 : Int32)) (fun S_4 v_5 => if ¬ v_5 = 0 then (xob (f_X10_seekChimney S_4 x1) (fun S_7 v_8 => if ¬ x2 = 0 then (xbd (S_7.1 86 2) (fun v_10 => some (S_7, v_10))) else (xbd (S_7.1 86 3) (fun v_11 => some (S_7, v_11))))) else (some (S_4, (-1 : Int32))))))
def f_X11_chimney (S : xSt) (x1 : Int32) (x2 : Int32) : Option (xSt × Int32) := f_X11_chimney_0 x1 x2 S
def f_X11_latest_0 (S : xSt) : Option (xSt × Int32) :=
  xob (f_X10_latestTurn S) (fun S_1 v_2 => some (S_1, v_2))
def f_X11_latest (S : xSt) : Option (xSt × Int32) := f_X11_latest_0 S
def f_X11_isShelf_0 (x0 : Int32) (S : xSt) : Option (xSt × Int32) :=
  xob (f_X11_within S x0 (0 : Int32) (5 : Int32)) (fun S_1 v_2 => xgd (v_2 = 0 ∨ v_2 = 1) (some (S_1, v_2)))
def f_X11_isShelf (S : xSt) (x0 : Int32) : Option (xSt × Int32) := f_X11_isShelf_0 x0 S
def f_X11_lay_0 (x1 : Int32) (x2 : Int32) (x3 : Int32) (S : xSt) : Option (xSt × Int32) :=
  xob (f_X11_isShelf S x1) (fun S_1 v_2 => if v_2 = 0 then (some (S_1, (-1 : Int32))) else (xob (f_X11_within S_1 x2 (0 : Int32) (8 : Int32)) (fun S_4 v_5 => if v_5 = 0 then (some (S_4, (-1 : Int32))) else (if (-1 : Int32) ≤ x3 then (xgd (xin x1 6) (xob (f_X8_refusalOfBytes (104 + 2 * x1.toNatClampNeg) S_4) (fun S_9 v_10 => if v_10 = 0 then (xgd (xin x1 6) (xob (f_X6_seek (104 + 2 * x1.toNatClampNeg) S_9 x2) (fun S_13 v_14 => if 0 ≤ x3 then (xob (f_X6_placeOf S_13 x3) (fun S_16 v_17 => some (S_16, v_17))) else (xbd (S_13.1 89 6) (fun v_18 => some (S_13, v_18)))))) else (some (S_9, v_10))))) else (some (S_4, (-1 : Int32)))))))
def f_X11_lay (S : xSt) (x1 : Int32) (x2 : Int32) (x3 : Int32) : Option (xSt × Int32) := f_X11_lay_0 x1 x2 x3 S
def f_X11_worth_0 (S : xSt) : Option (xSt × Int32) :=
  xob (f_X4_value 16 S) (fun S_1 v_2 => some (S_1, v_2))
def f_X11_worth (S : xSt) : Option (xSt × Int32) := f_X11_worth_0 S
def f_X11_sell_0 (x1 : Int32) (x2 : Int32) (x3 : Int32) (S : xSt) : Option (xSt × Int32) :=
  xob (f_X11_within S x1 (0 : Int32) (40 : Int32)) (fun S_1 v_2 => if v_2 = 0 then (some (S_1, (-2000000000 : Int32))) else (xob (f_X11_within S_1 x2 (0 : Int32) (99 : Int32)) (fun S_4 v_5 => if v_5 = 0 then (some (S_4, (-2000000000 : Int32))) else (xob (f_X11_within S_4 x3 (0 : Int32) (1 : Int32)) (fun S_7 v_8 => if ¬ v_8 = 0 then (xob (f_X10_seekSale S_7 x1 x2) (fun S_10 v_11 => if ¬ x3 = 0 then (xbd (S_10.1 86 2) (fun v_13 => some (S_10, v_13))) else (xbd (S_10.1 86 3) (fun v_14 => some (S_10, v_14))))) else (some (S_7, (-2000000000 : Int32))))))))
def f_X11_sell (S : xSt) (x1 : Int32) (x2 : Int32) (x3 : Int32) : Option (xSt × Int32) := f_X11_sell_0 x1 x2 x3 S
def f_X11_judge_0 (x1 : Int32) (x2 : Int32) (S : xSt) : Option (xSt × Int32) :=
  xob (f_X11_isShelf S x1) (fun S_1 v_2 => if v_2 = 0 then (some (S_1, (-1 : Int32))) else (xob (f_X4_has 16 S_1 x2) (fun S_4 v_5 => if ¬ v_5 = 0 then (xgd (xin x1 6) (xob (f_X8_refusalOfBytes (104 + 2 * x1.toNatClampNeg) S_4) (fun S_8 v_9 => if v_9 = 0 then (xgd (xin x1 6) (xob (f_X1_judged (104 + 2 * x1.toNatClampNeg) S_8 x2) (fun S_12 v_13 => some (S_12, v_13)))) else (some (S_8, v_9))))) else (some (S_4, (-1 : Int32))))))
def f_X11_judge (S : xSt) (x1 : Int32) (x2 : Int32) : Option (xSt × Int32) := f_X11_judge_0 x1 x2 S
def f_X11_book_90 (x3 : Int32) (y1 : Nat) (y2 : Int32) (y3 : Int32) (S : xSt) : Option (xSt × Int32) :=
  xob (f_X1_fitting y1 S y2 y3) (fun S_1 v_2 => if x3 = (0 : Int32) then (xob (f_J6_bitCount_0f7a4 S_1 v_2) (fun S_4 v_5 => some (S_4, v_5))) else (if x3 = (1 : Int32) then (xob (f_X11_lowestBit S_1 v_2) (fun S_7 v_8 => some (S_7, v_8))) else (some (S_1, v_2))))
def f_X11_book_0 (x1 : Int32) (x2 : Int32) (x3 : Int32) (S : xSt) : Option (xSt × Int32) :=
  xob (f_X11_isShelf S x1) (fun S_1 v_2 => if v_2 = 0 then (some (S_1, (-1 : Int32))) else (if x2 < 0 then (some (S_1, (-1 : Int32))) else (xgd (¬ (100 : Int32) = 0) (xbd (x2 / (100 : Int32)) (fun v_5 => xob (f_X4_has 16 S_1 v_5) (fun S_6 v_7 => if v_7 = 0 then (some (S_6, (-1 : Int32))) else (xgd (¬ (100 : Int32) = 0) (xbd (x2 - x2 / (100 : Int32) * (100 : Int32)) (fun v_9 => xob (f_X4_has 16 S_6 v_9) (fun S_10 v_11 => if v_11 = 0 then (some (S_10, (-1 : Int32))) else (xob (f_X11_within S_10 x3 (0 : Int32) (2 : Int32)) (fun S_13 v_14 => if ¬ v_14 = 0 then (xgd (xin x1 6) (xob (f_X8_refusalOfBytes (104 + 2 * x1.toNatClampNeg) S_13) (fun S_17 v_18 => if v_18 = 0 then (xgd (xin x1 6) (if ¬ x3 = (2 : Int32) then (f_X11_book_90 x3 (104 + 2 * x1.toNatClampNeg) x2 ((0 : Int32)) S_17) else (f_X11_book_90 x3 (104 + 2 * x1.toNatClampNeg) x2 ((3 : Int32)) S_17))) else (some (S_17, v_18))))) else (some (S_13, (-1 : Int32)))))))))))))))
def f_X11_book (S : xSt) (x1 : Int32) (x2 : Int32) (x3 : Int32) : Option (xSt × Int32) := f_X11_book_0 x1 x2 x3 S
def f_X11_byTurns_0 (x1 : Int32) (x2 : Int32) (S : xSt) : Option (xSt × Int32) :=
  xob (f_X11_within S x1 (10 : Int32) (39 : Int32)) (fun S_1 v_2 => if v_2 = 0 then (some (S_1, (-1 : Int32))) else (xob (f_X11_within S_1 x2 (0 : Int32) (1 : Int32)) (fun S_4 v_5 => if ¬ v_5 = 0 then (xgd (¬ (10 : Int32) = 0) (xbd (x1 / (10 : Int32)) (fun v_7 => xgd (¬ (10 : Int32) = 0) (xbd (x1 - x1 / (10 : Int32) * (10 : Int32)) (fun v_8 => xob (f_X3_play S_4 v_7 v_8) (fun S_9 v_10 => if ¬ x2 = 0 then (xbd (S_9.1 93 5) (fun v_12 => some (S_9, v_12))) else (xbd (S_9.1 93 4) (fun v_13 => some (S_9, v_13))))))))) else (some (S_4, (-1 : Int32))))))
def f_X11_byTurns (S : xSt) (x1 : Int32) (x2 : Int32) : Option (xSt × Int32) := f_X11_byTurns_0 x1 x2 S
def f_X11_turned_0 (x1 : Int32) (S : xSt) : Option (xSt × Int32) :=
  xob (f_X11_within S x1 (0 : Int32) (5 : Int32)) (fun S_1 v_2 => if ¬ v_2 = 0 then (xob (f_X4_turnColumn 16 S_1 x1) (fun S_4 v_5 => xgd (xin (1 : Int32) 6) (xbd (S_4.1 (16 + 8) (1 : Int32).toNatClampNeg) (fun v_6 => xbd (v_6 + (1 : Int32)) (fun v_7 => xgd (xin (1 : Int32) 6) (xbd (xsi S_4 (16 + 8) (1 : Int32).toNatClampNeg v_7) (fun S_8 => xgd (xin x1 6) (xbd (S_8.1 (16 + 1) x1.toNatClampNeg) (fun v_9 => some (S_8, v_9)))))))))) else (some (S_1, (-1 : Int32))))
def f_X11_turned (S : xSt) (x1 : Int32) : Option (xSt × Int32) := f_X11_turned_0 x1 S
def f_X11_read_0 (x1 : Int32) (S : xSt) : Option (xSt × Int32) :=
  xob (f_X4_has 16 S x1) (fun S_1 v_2 => if ¬ v_2 = 0 then (xgd (xin x1 30) (xbd (S_1.1 (16 + 4) x1.toNatClampNeg) (fun v_4 => xgd (xin (3 : Int32) 6) (xbd (S_1.1 (16 + 8) (3 : Int32).toNatClampNeg) (fun v_5 => xbd (v_5 + (1 : Int32)) (fun v_6 => xgd (xin (3 : Int32) 6) (xbd (xsi S_1 (16 + 8) (3 : Int32).toNatClampNeg v_6) (fun S_7 => xgd (xin (5 : Int32) 6) (xbd (S_7.1 (16 + 8) (5 : Int32).toNatClampNeg) (fun v_8 => xbd (if v_8 < v_4 then v_4 else v_8) (fun v_9 => xgd (xin (5 : Int32) 6) (xbd (xsi S_7 (16 + 8) (5 : Int32).toNatClampNeg v_9) (fun S_10 => some (S_10, v_4)))))))))))))) else (some (S_1, (-1 : Int32))))
def f_X11_read (S : xSt) (x1 : Int32) : Option (xSt × Int32) := f_X11_read_0 x1 S
def f_X11_day_0 (S : xSt) : Option (xSt × Int32) :=
  xob (f_X4_passDay 16 S) (fun S_1 v_2 => xgd (xin (4 : Int32) 6) (xbd (S_1.1 (16 + 8) (4 : Int32).toNatClampNeg) (fun v_3 => xbd (v_3 + (1 : Int32)) (fun v_4 => xgd (xin (4 : Int32) 6) (xbd (xsi S_1 (16 + 8) (4 : Int32).toNatClampNeg v_4) (fun S_5 => xob (f_X4_glowing 16 S_5) (fun S_6 v_7 => some (S_6, v_7))))))))
def f_X11_day (S : xSt) : Option (xSt × Int32) := f_X11_day_0 S
def f_X11_led_0 (x1 : Int32) (S : xSt) : Option (xSt × Int32) :=
  xob (f_X11_within S x1 (0 : Int32) (5 : Int32)) (fun S_1 v_2 => if v_2 = 0 then (some (S_1, (-1 : Int32))) else (xgd (xin x1 6) (xbd (S_1.1 (16 + 8) x1.toNatClampNeg) (fun v_4 => some (S_1, v_4)))))
def f_X11_led (S : xSt) (x1 : Int32) : Option (xSt × Int32) := f_X11_led_0 x1 S
def f_X11_image_0 (S : xSt) : Option (xSt × Int32) :=
  xob (f_X4_takeStack 26 16 S) (fun S_1 v_2 => xbd (xsi S_1 0 4 (1 : Int32)) (fun S_3 => xgd (xin (4 : Int32) 6) (xbd (S_3.1 (16 + 8) (4 : Int32).toNatClampNeg) (fun v_4 => some (S_3, v_4)))))
def f_X11_image (S : xSt) : Option (xSt × Int32) := f_X11_image_0 S
def f_X11_back_0 (S : xSt) : Option (xSt × Int32) :=
  xbd (S.1 0 4) (fun v_1 => if ¬ v_1 = 0 then (xob (f_X4_takeStack 16 26 S) (fun S_3 v_4 => xgd (xin (4 : Int32) 6) (xbd (S_3.1 (16 + 8) (4 : Int32).toNatClampNeg) (fun v_5 => some (S_3, v_5))))) else (some (S, (-5 : Int32))))
def f_X11_back (S : xSt) : Option (xSt × Int32) := f_X11_back_0 S
def f_X11_row_0 (x1 : Int32) (x2 : Int32) (x3 : Int32) (S : xSt) : Option (xSt × Int32) :=
  xob (f_X11_isShelf S x1) (fun S_1 v_2 => if v_2 = 0 then (some (S_1, (-1 : Int32))) else (xob (f_X11_within S_1 x2 (0 : Int32) (4 : Int32)) (fun S_4 v_5 => if v_5 = 0 then (some (S_4, (-1 : Int32))) else (if x3 ≤ (60 : Int32) then (if 0 ≤ x3 then (xgd (xin x1 6) (xob (f_X8_holdRow (104 + 2 * x1.toNatClampNeg) S_4 x2 x3) (fun S_10 v_11 => some (S_10, (1 : Int32))))) else (some (S_4, (-14 : Int32)))) else (some (S_4, (-1 : Int32)))))))
def f_X11_row (S : xSt) (x1 : Int32) (x2 : Int32) (x3 : Int32) : Option (xSt × Int32) := f_X11_row_0 x1 x2 x3 S
def f_X11_put_37 (x5 : Int32) (S : xSt) : Option (xSt × Int32) :=
  if ¬ x5 = 0 then (some (S, x5)) else (some (S, (1 : Int32)))
def f_X11_put_0 (x1 : Int32) (x2 : Int32) (x3 : Int64) (S : xSt) : Option (xSt × Int32) :=
  xob (f_X11_isShelf S x1) (fun S_1 v_2 => if ¬ v_2 = 0 then (xgd (xin x1 6) (xob (f_X8_refusalOfPlace (104 + 2 * x1.toNatClampNeg) S_1 x2) (fun S_5 v_6 => if ¬ v_6 = 0 then (f_X11_put_37 v_6 S_5) else (xgd (xin x1 6) (xob (f_X8_store (104 + 2 * x1.toNatClampNeg) S_5 x2 x3) (fun S_9 v_10 => f_X11_put_37 v_6 S_9)))))) else (some (S_1, (-1 : Int32))))
def f_X11_put (S : xSt) (x1 : Int32) (x2 : Int32) (x3 : Int64) : Option (xSt × Int32) := f_X11_put_0 x1 x2 x3 S
def f_X11_count_0 (x1 : Int32) (S : xSt) : Option (xSt × Int32) :=
  if x1 = (0 : Int32) then (xob (f_X4_cells 16 S) (fun S_2 v_3 => some (S_2, v_3))) else (if x1 = (1 : Int32) then (xob (f_X4_glowing 16 S) (fun S_5 v_6 => some (S_5, v_6))) else (if x1 = (2 : Int32) then (xbd (S.1 2 1) (fun v_8 => some (S, v_8))) else (if x1 = (3 : Int32) then (xbd (S.1 96 4) (fun v_10 => some (S, v_10))) else (if x1 = (4 : Int32) then (xbd (S.1 101 1) (fun v_12 => some (S, v_12))) else (if x1 = (5 : Int32) then (xbd (S.1 101 3) (fun v_14 => some (S, v_14))) else (some (S, (-1 : Int32))))))))
def f_X11_count (S : xSt) (x1 : Int32) : Option (xSt × Int32) := f_X11_count_0 x1 S
def f_J13_bitCount_95d88_0 (x0 : Int64) (S : xSt) : Option (xSt × Int32) :=
  xbd ((x0.toUInt64 >>> ((1 : Int32).toInt64.toUInt64 &&& Int64.toUInt64 63)).toInt64) (fun v_1 => xbd (v_1 &&& (6148914691236517205 : Int64)) (fun v_2 => xbd (x0 - v_2) (fun v_3 => xbd (v_3 &&& (3689348814741910323 : Int64)) (fun v_4 => xbd ((v_3.toUInt64 >>> ((2 : Int32).toInt64.toUInt64 &&& Int64.toUInt64 63)).toInt64) (fun v_5 => xbd (v_5 &&& (3689348814741910323 : Int64)) (fun v_6 => xbd (v_4 + v_6) (fun v_7 => xbd ((v_7.toUInt64 >>> ((4 : Int32).toInt64.toUInt64 &&& Int64.toUInt64 63)).toInt64) (fun v_8 => xbd (v_7 + v_8) (fun v_9 => xbd (v_9 &&& (1085102592571150095 : Int64)) (fun v_10 => xbd ((v_10.toUInt64 >>> ((8 : Int32).toInt64.toUInt64 &&& Int64.toUInt64 63)).toInt64) (fun v_11 => xbd (v_10 + v_11) (fun v_12 => xbd ((v_12.toUInt64 >>> ((16 : Int32).toInt64.toUInt64 &&& Int64.toUInt64 63)).toInt64) (fun v_13 => xbd (v_12 + v_13) (fun v_14 => xbd ((v_14.toUInt64 >>> ((32 : Int32).toInt64.toUInt64 &&& Int64.toUInt64 63)).toInt64) (fun v_15 => xbd (v_14 + v_15) (fun v_16 => xbd (v_16.toInt32) (fun v_17 => xbd (v_17 &&& (127 : Int32)) (fun v_18 => some (S, v_18)))))))))))))))))))
def f_J13_bitCount_95d88 (S : xSt) (x0 : Int64) : Option (xSt × Int32) := f_J13_bitCount_95d88_0 x0 S
