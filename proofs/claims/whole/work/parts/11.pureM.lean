def f_X12_in_14 (S : xSt) : Option (xSt × Int32) :=
  xgd ((0 : Int32) = 0 ∨ (0 : Int32) = 1) (some (S, (0 : Int32)))
def f_X12_in_0 (x0 : Int32) (x1 : Int32) (x2 : Int32) (S : xSt) : Option (xSt × Int32) :=
  if x0 < x1 then (f_X12_in_14 S) else (if x2 < x0 then (f_X12_in_14 S) else (xgd ((1 : Int32) = 0 ∨ (1 : Int32) = 1) (some (S, (1 : Int32)))))
def f_X12_in (S : xSt) (x0 : Int32) (x1 : Int32) (x2 : Int32) : Option (xSt × Int32) := f_X12_in_0 x0 x1 x2 S
def f_X12_has_0 (x0 : Int32) (x1 : Int32) (S : xSt) : Option (xSt × Int32) :=
  xbd (x0 >>> (x1 &&& 31)) (fun v_1 => xbd (v_1 &&& (1 : Int32)) (fun v_2 => if ¬ v_2 = (1 : Int32) then (xgd ((0 : Int32) = 0 ∨ (0 : Int32) = 1) (some (S, (0 : Int32)))) else (xgd ((1 : Int32) = 0 ∨ (1 : Int32) = 1) (some (S, (1 : Int32))))))
def f_X12_has (S : xSt) (x0 : Int32) (x1 : Int32) : Option (xSt × Int32) := f_X12_has_0 x0 x1 S
def f_X12_bitsOf_4 (S : xSt) (x1 : Int32) (x2 : Int32) : Option ((xSt × Int32 × Int32) ⊕ (xSt × Int32)) :=
  if x2 = 0 then (some (.inr (S, x1))) else (xbd (x1 + (1 : Int32)) (fun v_2 => xbd (x2 - (1 : Int32)) (fun v_3 => xbd (x2 &&& v_3) (fun v_4 => some (.inl (S, v_2, v_4))))))
def f_X12_bitsOf_0 (x0 : Int32) (S : xSt) : Option (xSt × Int32) :=
  xlp (fun q : (xSt × Int32 × Int32) => f_X12_bitsOf_4 q.1 q.2.1 q.2.2) 5000 (S, (0 : Int32), x0)
def f_X12_bitsOf (S : xSt) (x0 : Int32) : Option (xSt × Int32) := f_X12_bitsOf_0 x0 S
def f_X12_isColumn_0 (x0 : Int32) (S : xSt) : Option (xSt × Int32) :=
  xob (f_X12_in S x0 (0 : Int32) (5 : Int32)) (fun S_1 v_2 => xgd (v_2 = 0 ∨ v_2 = 1) (some (S_1, v_2)))
def f_X12_isColumn (S : xSt) (x0 : Int32) : Option (xSt × Int32) := f_X12_isColumn_0 x0 S
def f_X12_isCell_28 (S : xSt) : Option (xSt × Int32) :=
  xgd ((0 : Int32) = 0 ∨ (0 : Int32) = 1) (some (S, (0 : Int32)))
def f_X12_isCell_0 (x1 : Int32) (S : xSt) : Option (xSt × Int32) :=
  xob (f_X12_in S x1 (0 : Int32) (29 : Int32)) (fun S_1 v_2 => if v_2 = 0 then (f_X12_isCell_28 S_1) else (xgd (¬ (5 : Int32) = 0) (xbd (x1 - x1 / (5 : Int32) * (5 : Int32)) (fun v_4 => xgd (¬ (5 : Int32) = 0) (xbd (x1 / (5 : Int32)) (fun v_5 => xgd (xin v_5 6) (xbd (S_1.1 1 v_5.toNatClampNeg) (fun v_6 => if v_6 ≤ v_4 then (f_X12_isCell_28 S_1) else (xgd ((1 : Int32) = 0 ∨ (1 : Int32) = 1) (some (S_1, (1 : Int32))))))))))))
def f_X12_isCell (S : xSt) (x1 : Int32) : Option (xSt × Int32) := f_X12_isCell_0 x1 S
def f_X12_addLoad_0 (x1 : Int32) (x2 : Int32) (x3 : Int32) (S : xSt) : Option (xSt × Int32) :=
  xbd ((5 : Int32) * x1) (fun v_1 => xgd (xin x1 6) (xbd (S.1 1 x1.toNatClampNeg) (fun v_2 => xbd (v_1 + v_2) (fun v_3 => xgd (xin v_3 30) (xbd (xsi S 2 v_3.toNatClampNeg x2) (fun S_4 => xgd (xin v_3 30) (xbd (xsi S_4 3 v_3.toNatClampNeg (20 : Int32)) (fun S_5 => xgd (xin v_3 30) (xbd (xsi S_5 4 v_3.toNatClampNeg (99 : Int32)) (fun S_6 => xgd (xin v_3 30) (xbd (xsi S_6 5 v_3.toNatClampNeg (0 : Int32)) (fun S_7 => xgd (xin v_3 30) (xbd (xsi S_7 6 v_3.toNatClampNeg x3) (fun S_8 => xgd (xin x1 6) (xbd (S_8.1 1 x1.toNatClampNeg) (fun v_9 => xbd (v_9 + (1 : Int32)) (fun v_10 => xgd (xin x1 6) (xbd (xsi S_8 1 x1.toNatClampNeg v_10) (fun S_11 => xgd (xin (0 : Int32) 5) (xbd (S_11.1 9 (0 : Int32).toNatClampNeg) (fun v_12 => xbd (v_12 + (1 : Int32)) (fun v_13 => xgd (xin (0 : Int32) 5) (xbd (xsi S_11 9 (0 : Int32).toNatClampNeg v_13) (fun S_14 => some (S_14, v_3)))))))))))))))))))))))))
def f_X12_addLoad (S : xSt) (x1 : Int32) (x2 : Int32) (x3 : Int32) : Option (xSt × Int32) := f_X12_addLoad_0 x1 x2 x3 S
def f_X12_cart_0 (x1 : Int32) (x2 : Int32) (S : xSt) : Option (xSt × Int32) :=
  xob (f_X12_isColumn S x1) (fun S_1 v_2 => if v_2 = 0 then (some (S_1, (-1 : Int32))) else (xob (f_X12_in S_1 x2 (0 : Int32) (99 : Int32)) (fun S_4 v_5 => if ¬ v_5 = 0 then (xgd (xin x1 6) (xbd (S_4.1 1 x1.toNatClampNeg) (fun v_7 => if ¬ v_7 = (5 : Int32) then (xgd (¬ (10 : Int32) = 0) (xbd (x2 / (10 : Int32)) (fun v_9 => xgd (¬ (10 : Int32) = 0) (xbd (x2 - x2 / (10 : Int32) * (10 : Int32)) (fun v_10 => xob (f_X12_addLoad S_4 x1 v_9 v_10) (fun S_11 v_12 => some (S_11, v_12))))))) else (some (S_4, (-3 : Int32)))))) else (some (S_4, (-1 : Int32))))))
def f_X12_cart (S : xSt) (x1 : Int32) (x2 : Int32) : Option (xSt × Int32) := f_X12_cart_0 x1 x2 S
def f_X12_isShelf_0 (x0 : Int32) (S : xSt) : Option (xSt × Int32) :=
  xob (f_X12_in S x0 (0 : Int32) (5 : Int32)) (fun S_1 v_2 => xgd (v_2 = 0 ∨ v_2 = 1) (some (S_1, v_2)))
def f_X12_isShelf (S : xSt) (x0 : Int32) : Option (xSt × Int32) := f_X12_isShelf_0 x0 S
def f_X12_loads_58 (x1 : Int32) (x2 : Int32) (x3 : Int32) (S : xSt) (x4 : Int32) : Option ((xSt × Int32) ⊕ (xSt × Int32)) :=
  if x3 ≤ x4 then (some (.inr (S, x3))) else (xbd (x2.toInt64) (fun v_2 => xbd ((3 : Int32) * x4) (fun v_3 => xbd (v_3.toInt64) (fun v_4 => xbd (v_2 + v_4) (fun v_5 => xbd (lg_cmp v_5 (0 : Int64)) (fun v_6 => if v_6 < 0 then (some (.inr (S, x4))) else (xbd (v_5 + (2 : Int64)) (fun v_8 => xgd (xin x1 6) (xbd (S.1 38 x1.toNatClampNeg) (fun v_9 => xbd (v_9.toInt64) (fun v_10 => xbd (lg_cmp v_8 v_10) (fun v_11 => if v_11 < 0 then (xbd ((60 : Int32) * x1) (fun v_13 => xbd (v_5.toInt32) (fun v_14 => xbd (v_13 + v_14) (fun v_15 => xgd (xin v_15 360) (xbd (S.2 39 v_15.toNatClampNeg) (fun v_16 => xbd (v_16.toInt32) (fun v_17 => xob (f_X12_isColumn S v_17) (fun S_18 v_19 => if v_19 = 0 then (some (.inr (S_18, x4))) else (xbd (v_15 + (1 : Int32)) (fun v_21 => xgd (xin v_21 360) (xbd (S_18.2 39 v_21.toNatClampNeg) (fun v_22 => xbd (v_22.toInt32) (fun v_23 => xob (f_X12_in S_18 v_23 (0 : Int32) (9 : Int32)) (fun S_24 v_25 => if v_25 = 0 then (some (.inr (S_24, x4))) else (xbd (v_15 + (2 : Int32)) (fun v_27 => xgd (xin v_27 360) (xbd (S_24.2 39 v_27.toNatClampNeg) (fun v_28 => xbd (v_28.toInt32) (fun v_29 => xob (f_X12_in S_24 v_29 (0 : Int32) (9 : Int32)) (fun S_30 v_31 => if v_31 = 0 then (some (.inr (S_30, x4))) else (xgd (xin v_17 6) (xbd (S_30.1 1 v_17.toNatClampNeg) (fun v_33 => if ¬ v_33 = (5 : Int32) then (xbd (v_15 + (1 : Int32)) (fun v_35 => xgd (xin v_35 360) (xbd (S_30.2 39 v_35.toNatClampNeg) (fun v_36 => xbd (v_36.toInt32) (fun v_37 => xbd (v_15 + (2 : Int32)) (fun v_38 => xgd (xin v_38 360) (xbd (S_30.2 39 v_38.toNatClampNeg) (fun v_39 => xbd (v_39.toInt32) (fun v_40 => xob (f_X12_addLoad S_30 v_17 v_37 v_40) (fun S_41 v_42 => xbd (x4 + (1 : Int32)) (fun v_43 => some (.inl (S_41, v_43))))))))))))) else (some (.inr (S_30, x4)))))))))))))))))))))))))) else (some (.inr (S, x4)))))))))))))))
def f_X12_loads_43 (x1 : Int32) (x2 : Int32) (x3 : Int32) (S : xSt) : Option (xSt × Int32) :=
  xgd (xin x1 6) (xbd (S.1 37 x1.toNatClampNeg) (fun v_1 => if ¬ v_1 = (-1 : Int32) then (xlp (fun q : (xSt × Int32) => f_X12_loads_58 x1 x2 x3 q.1 q.2) 5000 (S, (0 : Int32))) else (some (S, (0 : Int32)))))
def f_X12_loads_0 (x1 : Int32) (x2 : Int32) (x3 : Int32) (S : xSt) : Option (xSt × Int32) :=
  xob (f_X12_isShelf S x1) (fun S_1 v_2 => if v_2 = 0 then (some (S_1, (-1 : Int32))) else (xob (f_X12_in S_1 x3 (1 : Int32) (20 : Int32)) (fun S_4 v_5 => if ¬ v_5 = 0 then (xgd (xin x1 6) (xbd (S_4.1 37 x1.toNatClampNeg) (fun v_7 => if v_7 = (-1 : Int32) then (f_X12_loads_43 x1 x2 x3 S_4) else (xgd (xin x1 6) (xbd (S_4.1 37 x1.toNatClampNeg) (fun v_9 => if v_9 = (-2 : Int32) then (f_X12_loads_43 x1 x2 x3 S_4) else (some (S_4, (-12 : Int32))))))))) else (some (S_4, (-1 : Int32))))))
def f_X12_loads (S : xSt) (x1 : Int32) (x2 : Int32) (x3 : Int32) : Option (xSt × Int32) := f_X12_loads_0 x1 x2 x3 S
def f_X12_valueAt_0 (x1 : Int32) (x2 : Int32) (S : xSt) : Option (xSt × Int32) :=
  if x1 = (0 : Int32) then (xgd (xin x2 30) (xbd (S.1 2 x2.toNatClampNeg) (fun v_2 => some (S, v_2)))) else (if x1 = (1 : Int32) then (xgd (xin x2 30) (xbd (S.1 3 x2.toNatClampNeg) (fun v_4 => some (S, v_4)))) else (if x1 = (2 : Int32) then (xgd (xin x2 30) (xbd (S.1 4 x2.toNatClampNeg) (fun v_6 => some (S, v_6)))) else (if x1 = (3 : Int32) then (xgd (xin x2 30) (xbd (S.1 5 x2.toNatClampNeg) (fun v_8 => some (S, v_8)))) else (if x1 = (4 : Int32) then (xgd (xin x2 30) (xbd (S.1 6 x2.toNatClampNeg) (fun v_10 => some (S, v_10)))) else (if x1 = (5 : Int32) then (xgd (xin x2 6) (xbd (S.1 7 x2.toNatClampNeg) (fun v_12 => some (S, v_12)))) else (xbd (x1 - (6 : Int32)) (fun v_13 => xgd (xin v_13 2) (xbd (S.1 8 v_13.toNatClampNeg) (fun v_14 => some (S, v_14))))))))))
def f_X12_valueAt (S : xSt) (x1 : Int32) (x2 : Int32) : Option (xSt × Int32) := f_X12_valueAt_0 x1 x2 S
def f_X12_lays_0 (x1 : Int32) (x2 : Int32) (x3 : Int32) (S : xSt) : Option (xSt × Unit) :=
  if x1 = (0 : Int32) then (xgd (xin x2 30) (xbd (xsi S 2 x2.toNatClampNeg x3) (fun S_2 => some (S_2, ())))) else (if x1 = (1 : Int32) then (xgd (xin x2 30) (xbd (xsi S 3 x2.toNatClampNeg x3) (fun S_4 => some (S_4, ())))) else (if x1 = (2 : Int32) then (xgd (xin x2 30) (xbd (xsi S 4 x2.toNatClampNeg x3) (fun S_6 => some (S_6, ())))) else (if x1 = (3 : Int32) then (xgd (xin x2 30) (xbd (xsi S 5 x2.toNatClampNeg x3) (fun S_8 => some (S_8, ())))) else (if x1 = (4 : Int32) then (xgd (xin x2 30) (xbd (xsi S 6 x2.toNatClampNeg x3) (fun S_10 => some (S_10, ())))) else (if x1 = (5 : Int32) then (xgd (xin x2 6) (xbd (xsi S 7 x2.toNatClampNeg x3) (fun S_12 => some (S_12, ())))) else (xbd (x1 - (6 : Int32)) (fun v_13 => xgd (xin v_13 2) (xbd (xsi S 8 v_13.toNatClampNeg x3) (fun S_14 => some (S_14, ()))))))))))
def f_X12_lays (S : xSt) (x1 : Int32) (x2 : Int32) (x3 : Int32) : Option (xSt × Unit) := f_X12_lays_0 x1 x2 x3 S
def f_X12_changes_121 (x1 : Int32) (x2 : Int32) (x3 : Int32) (x4 : Int32) (S : xSt) : Option (xSt × Int32) :=
  xbd (S.1 0 10) (fun v_1 => xgd (xin v_1 40) (xbd (xsi S 10 v_1.toNatClampNeg x1) (fun S_2 => xbd (S_2.1 0 10) (fun v_3 => xgd (xin v_3 40) (xbd (xsi S_2 11 v_3.toNatClampNeg x2) (fun S_4 => xbd (S_4.1 0 10) (fun v_5 => xgd (xin v_5 40) (xbd (xsi S_4 12 v_5.toNatClampNeg x4) (fun S_6 => xbd (S_6.1 0 10) (fun v_7 => xgd (xin v_7 40) (xbd (xsi S_6 13 v_7.toNatClampNeg x3) (fun S_8 => xbd (S_8.1 0 10) (fun v_9 => xbd (v_9 + (1 : Int32)) (fun v_10 => xbd (xsi S_8 0 10 v_10) (fun S_11 => xob (f_X12_lays S_11 x1 x2 x3) (fun S_12 v_13 => some (S_12, x4)))))))))))))))))
def f_X12_changes_111 (x1 : Int32) (x2 : Int32) (x3 : Int32) (x4 : Int32) (S : xSt) : Option (xSt × Int32) :=
  xbd (S.1 0 10) (fun v_1 => xbd (v_1 - (1 : Int32)) (fun v_2 => xbd (xsi S 0 10 v_2) (fun S_3 => f_X12_changes_121 x1 x2 x3 x4 S_3)))
def f_X12_changes_34 (x1 : Int32) (x2 : Int32) (x3 : Int32) (x4 : Int32) (S : xSt) (x5 : Int32) : Option ((xSt × Int32) ⊕ (xSt × Int32)) :=
  if (40 : Int32) ≤ x5 then (xmr (f_X12_changes_111 x1 x2 x3 x4 S)) else (xbd (x5 - (1 : Int32)) (fun v_2 => xgd (xin x5 40) (xbd (S.1 10 x5.toNatClampNeg) (fun v_3 => xgd (xin v_2 40) (xbd (xsi S 10 v_2.toNatClampNeg v_3) (fun S_4 => xbd (x5 - (1 : Int32)) (fun v_5 => xgd (xin x5 40) (xbd (S_4.1 11 x5.toNatClampNeg) (fun v_6 => xgd (xin v_5 40) (xbd (xsi S_4 11 v_5.toNatClampNeg v_6) (fun S_7 => xbd (x5 - (1 : Int32)) (fun v_8 => xgd (xin x5 40) (xbd (S_7.1 12 x5.toNatClampNeg) (fun v_9 => xgd (xin v_8 40) (xbd (xsi S_7 12 v_8.toNatClampNeg v_9) (fun S_10 => xbd (x5 - (1 : Int32)) (fun v_11 => xgd (xin x5 40) (xbd (S_10.1 13 x5.toNatClampNeg) (fun v_12 => xgd (xin v_11 40) (xbd (xsi S_10 13 v_11.toNatClampNeg v_12) (fun S_13 => xbd (x5 + (1 : Int32)) (fun v_14 => some (.inl (S_13, v_14))))))))))))))))))))))))
def f_X12_changes_0 (x1 : Int32) (x2 : Int32) (x3 : Int32) (S : xSt) : Option (xSt × Int32) :=
  xob (f_X12_valueAt S x1 x2) (fun S_1 v_2 => if ¬ v_2 = x3 then (xbd (xsi S_1 0 11 (0 : Int32)) (fun S_4 => xbd (S_4.1 0 10) (fun v_5 => if ¬ v_5 = (40 : Int32) then (f_X12_changes_121 x1 x2 x3 v_2 S_4) else (xlp (fun q : (xSt × Int32) => f_X12_changes_34 x1 x2 x3 v_2 q.1 q.2) 5000 (S_4, (1 : Int32)))))) else (some (S_1, v_2)))
def f_X12_changes (S : xSt) (x1 : Int32) (x2 : Int32) (x3 : Int32) : Option (xSt × Int32) := f_X12_changes_0 x1 x2 x3 S
def f_X12_undo_0 (S : xSt) : Option (xSt × Int32) :=
  xbd (S.1 0 10) (fun v_1 => if ¬ v_1 = 0 then (xbd (S.1 0 10) (fun v_3 => xbd (v_3 - (1 : Int32)) (fun v_4 => xbd (xsi S 0 10 v_4) (fun S_5 => xbd (S_5.1 0 11) (fun v_6 => xbd (v_6 + (1 : Int32)) (fun v_7 => xbd (xsi S_5 0 11 v_7) (fun S_8 => xbd (S_8.1 0 10) (fun v_9 => xgd (xin v_9 40) (xbd (S_8.1 10 v_9.toNatClampNeg) (fun v_10 => xbd (S_8.1 0 10) (fun v_11 => xgd (xin v_11 40) (xbd (S_8.1 11 v_11.toNatClampNeg) (fun v_12 => xbd (S_8.1 0 10) (fun v_13 => xgd (xin v_13 40) (xbd (S_8.1 12 v_13.toNatClampNeg) (fun v_14 => xob (f_X12_lays S_8 v_10 v_12 v_14) (fun S_15 v_16 => xbd (S_15.1 0 10) (fun v_17 => some (S_15, v_17))))))))))))))))))) else (some (S, (-5 : Int32))))
def f_X12_undo (S : xSt) : Option (xSt × Int32) := f_X12_undo_0 S
def f_X12_redo_0 (S : xSt) : Option (xSt × Int32) :=
  xbd (S.1 0 11) (fun v_1 => if ¬ v_1 = 0 then (xbd (S.1 0 10) (fun v_3 => xgd (xin v_3 40) (xbd (S.1 10 v_3.toNatClampNeg) (fun v_4 => xbd (S.1 0 10) (fun v_5 => xgd (xin v_5 40) (xbd (S.1 11 v_5.toNatClampNeg) (fun v_6 => xbd (S.1 0 10) (fun v_7 => xgd (xin v_7 40) (xbd (S.1 13 v_7.toNatClampNeg) (fun v_8 => xob (f_X12_lays S v_4 v_6 v_8) (fun S_9 v_10 => xbd (S_9.1 0 10) (fun v_11 => xbd (v_11 + (1 : Int32)) (fun v_12 => xbd (xsi S_9 0 10 v_12) (fun S_13 => xbd (S_13.1 0 11) (fun v_14 => xbd (v_14 - (1 : Int32)) (fun v_15 => xbd (xsi S_13 0 11 v_15) (fun S_16 => xbd (S_16.1 0 11) (fun v_17 => some (S_16, v_17))))))))))))))))))) else (some (S, (-5 : Int32))))
def f_X12_redo (S : xSt) : Option (xSt × Int32) := f_X12_redo_0 S
def f_X12_isPlace_48 (S : xSt) : Option (xSt × Int32) :=
  xgd ((0 : Int32) = 0 ∨ (0 : Int32) = 1) (some (S, (0 : Int32)))
def f_X12_isPlace_0 (x1 : Int32) (x2 : Int32) (S : xSt) : Option (xSt × Int32) :=
  xob (f_X12_in S x2 (0 : Int32) (4 : Int32)) (fun S_1 v_2 => if v_2 = 0 then (if ¬ x2 = (5 : Int32) then (xob (f_X12_in S_1 x2 (6 : Int32) (7 : Int32)) (fun S_5 v_6 => if v_6 = 0 then (f_X12_isPlace_48 S_5) else (if ¬ x1 = 0 then (f_X12_isPlace_48 S_5) else (xgd ((1 : Int32) = 0 ∨ (1 : Int32) = 1) (some (S_5, (1 : Int32))))))) else (xob (f_X12_isColumn S_1 x1) (fun S_9 v_10 => xgd (v_10 = 0 ∨ v_10 = 1) (some (S_9, v_10))))) else (xob (f_X12_isCell S_1 x1) (fun S_11 v_12 => xgd (v_12 = 0 ∨ v_12 = 1) (some (S_11, v_12)))))
def f_X12_isPlace (S : xSt) (x1 : Int32) (x2 : Int32) : Option (xSt × Int32) := f_X12_isPlace_0 x1 x2 S
def f_X12_mayHave_0 (x0 : Int32) (x1 : Int32) (S : xSt) : Option (xSt × Int32) :=
  if x0 = (0 : Int32) then (xob (f_X12_in S x1 (0 : Int32) (9 : Int32)) (fun S_2 v_3 => xgd (v_3 = 0 ∨ v_3 = 1) (some (S_2, v_3)))) else (if x0 = (1 : Int32) then (xob (f_X12_in S x1 (0 : Int32) (99 : Int32)) (fun S_5 v_6 => xgd (v_6 = 0 ∨ v_6 = 1) (some (S_5, v_6)))) else (if x0 = (2 : Int32) then (xob (f_X12_in S x1 (0 : Int32) (99 : Int32)) (fun S_8 v_9 => xgd (v_9 = 0 ∨ v_9 = 1) (some (S_8, v_9)))) else (if x0 = (3 : Int32) then (xob (f_X12_in S x1 (0 : Int32) (1 : Int32)) (fun S_11 v_12 => xgd (v_12 = 0 ∨ v_12 = 1) (some (S_11, v_12)))) else (if x0 = (4 : Int32) then (xob (f_X12_in S x1 (0 : Int32) (9 : Int32)) (fun S_14 v_15 => xgd (v_15 = 0 ∨ v_15 = 1) (some (S_14, v_15)))) else (if x0 = (5 : Int32) then (xob (f_X12_in S x1 (0 : Int32) (1 : Int32)) (fun S_17 v_18 => xgd (v_18 = 0 ∨ v_18 = 1) (some (S_17, v_18)))) else (if x0 = (6 : Int32) then (xob (f_X12_in S x1 (30 : Int32) (99 : Int32)) (fun S_20 v_21 => xgd (v_21 = 0 ∨ v_21 = 1) (some (S_20, v_21)))) else (xob (f_X12_in S x1 (0 : Int32) (99 : Int32)) (fun S_22 v_23 => xgd (v_23 = 0 ∨ v_23 = 1) (some (S_22, v_23))))))))))
def f_X12_mayHave (S : xSt) (x0 : Int32) (x1 : Int32) : Option (xSt × Int32) := f_X12_mayHave_0 x0 x1 S
def f_X12_mend_27 (S : xSt) : Option (xSt × Int32) :=
  some (S, (-1 : Int32))
def f_X12_mend_0 (x1 : Int32) (x2 : Int32) (x3 : Int32) (S : xSt) : Option (xSt × Int32) :=
  xob (f_X12_isPlace S x1 x2) (fun S_1 v_2 => if v_2 = 0 then (f_X12_mend_27 S_1) else (xob (f_X12_mayHave S_1 x2 x3) (fun S_4 v_5 => if v_5 = 0 then (f_X12_mend_27 S_4) else (xob (f_X12_changes S_4 x2 x1 x3) (fun S_7 v_8 => some (S_7, v_8))))))
def f_X12_mend (S : xSt) (x1 : Int32) (x2 : Int32) (x3 : Int32) : Option (xSt × Int32) := f_X12_mend_0 x1 x2 x3 S
def f_X12_of_0 (x1 : Int32) (x2 : Int32) (S : xSt) : Option (xSt × Int32) :=
  if ¬ x2 = (8 : Int32) then (xob (f_X12_isPlace S x1 x2) (fun S_2 v_3 => if v_3 = 0 then (some (S_2, (-1 : Int32))) else (xob (f_X12_valueAt S_2 x2 x1) (fun S_5 v_6 => some (S_5, v_6))))) else (xob (f_X12_isColumn S x1) (fun S_7 v_8 => if v_8 = 0 then (some (S_7, (-1 : Int32))) else (xgd (xin x1 6) (xbd (S_7.1 1 x1.toNatClampNeg) (fun v_10 => some (S_7, v_10))))))
def f_X12_of (S : xSt) (x1 : Int32) (x2 : Int32) : Option (xSt × Int32) := f_X12_of_0 x1 x2 S
def f_X12_feed_0 (x1 : Int32) (S : xSt) : Option (xSt × Int32) :=
  xob (f_X12_in S x1 (0 : Int32) (255 : Int32)) (fun S_1 v_2 => if ¬ v_2 = 0 then (xbd (S_1.1 0 17) (fun v_4 => if ¬ v_4 = (120 : Int32) then (xbd (S_1.1 0 17) (fun v_6 => xbd (x1.toInt8.toInt32) (fun v_7 => xgd (xin v_6 120) (xbd (xsi S_1 14 v_6.toNatClampNeg (v_7.toInt8.toInt32)) (fun S_8 => xbd (S_8.1 0 17) (fun v_9 => xbd (v_9 + (1 : Int32)) (fun v_10 => xbd (xsi S_8 0 17 v_10) (fun S_11 => xbd (S_11.1 0 17) (fun v_12 => some (S_11, v_12)))))))))) else (some (S_1, (-3 : Int32))))) else (some (S_1, (-1 : Int32))))
def f_X12_feed (S : xSt) (x1 : Int32) : Option (xSt × Int32) := f_X12_feed_0 x1 S
def f_X12_look_0 (S : xSt) : Option (xSt × Int32) :=
  xbd (S.1 0 18) (fun v_1 => xbd (S.1 0 17) (fun v_2 => if v_2 ≤ v_1 then (some (S, (-1 : Int32))) else (xbd (S.1 0 18) (fun v_4 => xgd (xin v_4 120) (xbd (S.1 14 v_4.toNatClampNeg) (fun v_5 => some (S, v_5)))))))
def f_X12_look (S : xSt) : Option (xSt × Int32) := f_X12_look_0 S
def f_X12_wrong_0 (S : xSt) : Option (xSt × Unit) :=
  xbd (S.1 0 19) (fun v_1 => if 0 ≤ v_1 then (some (S, ())) else (xbd (S.1 0 18) (fun v_3 => xbd (xsi S 0 19 v_3) (fun S_4 => some (S_4, ())))))
def f_X12_wrong (S : xSt) : Option (xSt × Unit) := f_X12_wrong_0 S
def f_X12_addStep_0 (x1 : Int32) (x2 : Int32) (S : xSt) : Option (xSt × Unit) :=
  xbd (S.1 0 21) (fun v_1 => xbd ((130 : Int32) + v_1) (fun v_2 => xbd (x1.toInt8.toInt32) (fun v_3 => xgd (xin v_2 260) (xbd (xsi S 15 v_2.toNatClampNeg (v_3.toInt8.toInt32)) (fun S_4 => xbd (S_4.1 0 21) (fun v_5 => xbd ((130 : Int32) + v_5) (fun v_6 => xgd (xin v_6 260) (xbd (xsi S_4 16 v_6.toNatClampNeg x2) (fun S_7 => xbd (S_7.1 0 21) (fun v_8 => xbd (v_8 + (1 : Int32)) (fun v_9 => xbd (xsi S_7 0 21 v_9) (fun S_10 => some (S_10, ())))))))))))))
def f_X12_addStep (S : xSt) (x1 : Int32) (x2 : Int32) : Option (xSt × Unit) := f_X12_addStep_0 x1 x2 S
def f_X12_nameOf_0 (x0 : Int32) (S : xSt) : Option (xSt × Int32) :=
  if x0 = (97 : Int32) then (some (S, (2 : Int32))) else (if x0 = (98 : Int32) then (some (S, (-1 : Int32))) else (if x0 = (99 : Int32) then (some (S, (-1 : Int32))) else (if x0 = (100 : Int32) then (some (S, (0 : Int32))) else (if x0 = (101 : Int32) then (some (S, (-1 : Int32))) else (if x0 = (102 : Int32) then (some (S, (-1 : Int32))) else (if x0 = (103 : Int32) then (some (S, (-1 : Int32))) else (if x0 = (104 : Int32) then (some (S, (1 : Int32))) else (if x0 = (105 : Int32) then (some (S, (-1 : Int32))) else (if x0 = (106 : Int32) then (some (S, (-1 : Int32))) else (if x0 = (107 : Int32) then (some (S, (-1 : Int32))) else (if x0 = (108 : Int32) then (some (S, (5 : Int32))) else (if x0 = (109 : Int32) then (some (S, (-1 : Int32))) else (if x0 = (110 : Int32) then (some (S, (4 : Int32))) else (if x0 = (111 : Int32) then (some (S, (-1 : Int32))) else (if x0 = (112 : Int32) then (some (S, (-1 : Int32))) else (if x0 = (113 : Int32) then (some (S, (-1 : Int32))) else (if x0 = (114 : Int32) then (some (S, (-1 : Int32))) else (if x0 = (115 : Int32) then (some (S, (3 : Int32))) else (some (S, (-1 : Int32)))))))))))))))))))))
def f_X12_nameOf (S : xSt) (x0 : Int32) : Option (xSt × Int32) := f_X12_nameOf_0 x0 S
def f_X12_opens_0 (S : xSt) : Option (xSt × Int32) :=
  xbd (S.1 0 20) (fun v_1 => if ¬ v_1 = (6 : Int32) then (xbd (S.1 0 20) (fun v_3 => xbd (v_3 + (1 : Int32)) (fun v_4 => xbd (xsi S 0 20 v_4) (fun S_5 => xbd (S_5.1 0 18) (fun v_6 => xbd (v_6 + (1 : Int32)) (fun v_7 => xbd (xsi S_5 0 18 v_7) (fun S_8 => xgd ((1 : Int32) = 0 ∨ (1 : Int32) = 1) (some (S_8, (1 : Int32)))))))))) else (xob (f_X12_wrong S) (fun S_9 v_10 => xgd ((0 : Int32) = 0 ∨ (0 : Int32) = 1) (some (S_9, (0 : Int32))))))
def f_X12_opens (S : xSt) : Option (xSt × Int32) := f_X12_opens_0 S
def f_X12_figure_74 (x1 : Int32) (S : xSt) : Option (xSt × Unit) :=
  xob (f_X12_addStep S (1 : Int32) x1) (fun S_1 v_2 => some (S_1, ()))
def f_X12_figure_70 (x1 : Int32) (S : xSt) : Option (xSt × Unit) :=
  xob (f_X12_wrong S) (fun S_1 v_2 => f_X12_figure_74 x1 S_1)
def f_X12_figure_52 (x1 : Int32) (x2 : Int32) (S : xSt) : Option (xSt × Unit) :=
  if x2 = 0 then (f_X12_figure_70 x1 S) else (xob (f_X12_look S) (fun S_2 v_3 => xob (f_X12_in S_2 v_3 (48 : Int32) (57 : Int32)) (fun S_4 v_5 => if v_5 = 0 then (f_X12_figure_74 x1 S_4) else (f_X12_figure_70 x1 S_4))))
def f_X12_figure_4 (S : xSt) (x1 : Int32) (x2 : Int32) : Option ((xSt × Int32 × Int32) ⊕ (xSt × Unit)) :=
  if (4 : Int32) ≤ x2 then (xmr (f_X12_figure_52 x1 x2 S)) else (xob (f_X12_look S) (fun S_2 v_3 => xob (f_X12_in S_2 v_3 (48 : Int32) (57 : Int32)) (fun S_4 v_5 => if v_5 = 0 then (xmr (f_X12_figure_52 x1 x2 S_4)) else (xbd ((10 : Int32) * x1) (fun v_7 => xob (f_X12_look S_4) (fun S_8 v_9 => xbd (v_7 + v_9) (fun v_10 => xbd (v_10 - (48 : Int32)) (fun v_11 => xbd (x2 + (1 : Int32)) (fun v_12 => xbd (S_8.1 0 18) (fun v_13 => xbd (v_13 + (1 : Int32)) (fun v_14 => xbd (xsi S_8 0 18 v_14) (fun S_15 => some (.inl (S_15, v_11, v_12))))))))))))))
def f_X12_figure_0 (S : xSt) : Option (xSt × Unit) :=
  xlp (fun q : (xSt × Int32 × Int32) => f_X12_figure_4 q.1 q.2.1 q.2.2) 5000 (S, (0 : Int32), (0 : Int32))
def f_X12_figure (S : xSt) : Option (xSt × Unit) := f_X12_figure_0 S
def f_X12_both_4 (g_X12_both : xSt → Option (xSt × Unit)) (g_X12_compared : xSt → Option (xSt × Unit)) (g_X12_either : xSt → Option (xSt × Unit)) (g_X12_operand : xSt → Option (xSt × Unit)) (g_X12_product : xSt → Option (xSt × Unit)) (g_X12_sum : xSt → Option (xSt × Unit)) (S : xSt) : Option (xSt ⊕ (xSt × Unit)) :=
  xbd (S.1 0 19) (fun v_1 => if 0 ≤ v_1 then (some (.inr (S, ()))) else (xob (f_X12_look S) (fun S_3 v_4 => if ¬ v_4 = (38 : Int32) then (some (.inr (S_3, ()))) else (xbd (S_3.1 0 18) (fun v_6 => xbd (v_6 + (1 : Int32)) (fun v_7 => xbd (xsi S_3 0 18 v_7) (fun S_8 => xob (g_X12_compared S_8) (fun S_9 v_10 => xob (f_X12_addStep S_9 (38 : Int32) (0 : Int32)) (fun S_11 v_12 => some (.inl S_11))))))))))
def f_X12_both_0 (g_X12_both : xSt → Option (xSt × Unit)) (g_X12_compared : xSt → Option (xSt × Unit)) (g_X12_either : xSt → Option (xSt × Unit)) (g_X12_operand : xSt → Option (xSt × Unit)) (g_X12_product : xSt → Option (xSt × Unit)) (g_X12_sum : xSt → Option (xSt × Unit)) (S : xSt) : Option (xSt × Unit) :=
  xob (g_X12_compared S) (fun S_1 v_2 => xlp (fun q : xSt => f_X12_both_4 g_X12_both g_X12_compared g_X12_either g_X12_operand g_X12_product g_X12_sum q) 5000 S_1)
def f_X12_compared_35 (g_X12_both : xSt → Option (xSt × Unit)) (g_X12_compared : xSt → Option (xSt × Unit)) (g_X12_either : xSt → Option (xSt × Unit)) (g_X12_operand : xSt → Option (xSt × Unit)) (g_X12_product : xSt → Option (xSt × Unit)) (g_X12_sum : xSt → Option (xSt × Unit)) (x1 : Int32) (S : xSt) : Option (xSt × Unit) :=
  xbd (S.1 0 18) (fun v_1 => xbd (v_1 + (1 : Int32)) (fun v_2 => xbd (xsi S 0 18 v_2) (fun S_3 => xob (g_X12_sum S_3) (fun S_4 v_5 => xob (f_X12_addStep S_4 x1 (0 : Int32)) (fun S_6 v_7 => some (S_6, ()))))))
def f_X12_compared_0 (g_X12_both : xSt → Option (xSt × Unit)) (g_X12_compared : xSt → Option (xSt × Unit)) (g_X12_either : xSt → Option (xSt × Unit)) (g_X12_operand : xSt → Option (xSt × Unit)) (g_X12_product : xSt → Option (xSt × Unit)) (g_X12_sum : xSt → Option (xSt × Unit)) (S : xSt) : Option (xSt × Unit) :=
  xob (g_X12_sum S) (fun S_1 v_2 => xob (f_X12_look S_1) (fun S_3 v_4 => xbd (S_3.1 0 19) (fun v_5 => if 0 ≤ v_5 then (some (S_3, ())) else (if v_4 = (60 : Int32) then (f_X12_compared_35 g_X12_both g_X12_compared g_X12_either g_X12_operand g_X12_product g_X12_sum v_4 S_3) else (if v_4 = (61 : Int32) then (f_X12_compared_35 g_X12_both g_X12_compared g_X12_either g_X12_operand g_X12_product g_X12_sum v_4 S_3) else (if v_4 = (62 : Int32) then (f_X12_compared_35 g_X12_both g_X12_compared g_X12_either g_X12_operand g_X12_product g_X12_sum v_4 S_3) else (some (S_3, ()))))))))
def f_X12_either_4 (g_X12_both : xSt → Option (xSt × Unit)) (g_X12_compared : xSt → Option (xSt × Unit)) (g_X12_either : xSt → Option (xSt × Unit)) (g_X12_operand : xSt → Option (xSt × Unit)) (g_X12_product : xSt → Option (xSt × Unit)) (g_X12_sum : xSt → Option (xSt × Unit)) (S : xSt) : Option (xSt ⊕ (xSt × Unit)) :=
  xbd (S.1 0 19) (fun v_1 => if 0 ≤ v_1 then (some (.inr (S, ()))) else (xob (f_X12_look S) (fun S_3 v_4 => if ¬ v_4 = (124 : Int32) then (some (.inr (S_3, ()))) else (xbd (S_3.1 0 18) (fun v_6 => xbd (v_6 + (1 : Int32)) (fun v_7 => xbd (xsi S_3 0 18 v_7) (fun S_8 => xob (g_X12_both S_8) (fun S_9 v_10 => xob (f_X12_addStep S_9 (124 : Int32) (0 : Int32)) (fun S_11 v_12 => some (.inl S_11))))))))))
def f_X12_either_0 (g_X12_both : xSt → Option (xSt × Unit)) (g_X12_compared : xSt → Option (xSt × Unit)) (g_X12_either : xSt → Option (xSt × Unit)) (g_X12_operand : xSt → Option (xSt × Unit)) (g_X12_product : xSt → Option (xSt × Unit)) (g_X12_sum : xSt → Option (xSt × Unit)) (S : xSt) : Option (xSt × Unit) :=
  xob (g_X12_both S) (fun S_1 v_2 => xlp (fun q : xSt => f_X12_either_4 g_X12_both g_X12_compared g_X12_either g_X12_operand g_X12_product g_X12_sum q) 5000 S_1)
def f_X12_operand_80 (g_X12_both : xSt → Option (xSt × Unit)) (g_X12_compared : xSt → Option (xSt × Unit)) (g_X12_either : xSt → Option (xSt × Unit)) (g_X12_operand : xSt → Option (xSt × Unit)) (g_X12_product : xSt → Option (xSt × Unit)) (g_X12_sum : xSt → Option (xSt × Unit)) (y1 : Int32) (S : xSt) : Option (xSt × Unit) :=
  xob (f_X12_addStep S y1 (0 : Int32)) (fun S_1 v_2 => some (S_1, ()))
def f_X12_operand_46 (g_X12_both : xSt → Option (xSt × Unit)) (g_X12_compared : xSt → Option (xSt × Unit)) (g_X12_either : xSt → Option (xSt × Unit)) (g_X12_operand : xSt → Option (xSt × Unit)) (g_X12_product : xSt → Option (xSt × Unit)) (g_X12_sum : xSt → Option (xSt × Unit)) (x1 : Int32) (S : xSt) : Option (xSt × Unit) :=
  xob (f_X12_opens S) (fun S_1 v_2 => if ¬ v_2 = 0 then (xob (g_X12_operand S_1) (fun S_4 v_5 => xbd (S_4.1 0 20) (fun v_6 => xbd (v_6 - (1 : Int32)) (fun v_7 => xbd (xsi S_4 0 20 v_7) (fun S_8 => if ¬ x1 = (33 : Int32) then (f_X12_operand_80 g_X12_both g_X12_compared g_X12_either g_X12_operand g_X12_product g_X12_sum ((4 : Int32)) S_8) else (f_X12_operand_80 g_X12_both g_X12_compared g_X12_either g_X12_operand g_X12_product g_X12_sum ((3 : Int32)) S_8)))))) else (some (S_1, ())))
def f_X12_operand_0 (g_X12_both : xSt → Option (xSt × Unit)) (g_X12_compared : xSt → Option (xSt × Unit)) (g_X12_either : xSt → Option (xSt × Unit)) (g_X12_operand : xSt → Option (xSt × Unit)) (g_X12_product : xSt → Option (xSt × Unit)) (g_X12_sum : xSt → Option (xSt × Unit)) (S : xSt) : Option (xSt × Unit) :=
  xob (f_X12_look S) (fun S_1 v_2 => xob (f_X12_nameOf S_1 v_2) (fun S_3 v_4 => if v_4 < 0 then (if v_2 = (33 : Int32) then (f_X12_operand_46 g_X12_both g_X12_compared g_X12_either g_X12_operand g_X12_product g_X12_sum v_2 S_3) else (if ¬ v_2 = (45 : Int32) then (if ¬ v_2 = (40 : Int32) then (xob (f_X12_figure S_3) (fun S_9 v_10 => some (S_9, ()))) else (xob (f_X12_opens S_3) (fun S_11 v_12 => if ¬ v_12 = 0 then (xob (g_X12_either S_11) (fun S_14 v_15 => xbd (S_14.1 0 19) (fun v_16 => if v_16 < 0 then (xob (f_X12_look S_14) (fun S_18 v_19 => if v_19 = (41 : Int32) then (xbd (S_18.1 0 18) (fun v_21 => xbd (v_21 + (1 : Int32)) (fun v_22 => xbd (xsi S_18 0 18 v_22) (fun S_23 => xbd (S_23.1 0 20) (fun v_24 => xbd (v_24 - (1 : Int32)) (fun v_25 => xbd (xsi S_23 0 20 v_25) (fun S_26 => some (S_26, ())))))))) else (xob (f_X12_wrong S_18) (fun S_27 v_28 => some (S_27, ()))))) else (some (S_14, ()))))) else (some (S_11, ()))))) else (f_X12_operand_46 g_X12_both g_X12_compared g_X12_either g_X12_operand g_X12_product g_X12_sum v_2 S_3))) else (xob (f_X12_nameOf S_3 v_2) (fun S_29 v_30 => xob (f_X12_addStep S_29 (2 : Int32) v_30) (fun S_31 v_32 => xbd (S_31.1 0 18) (fun v_33 => xbd (v_33 + (1 : Int32)) (fun v_34 => xbd (xsi S_31 0 18 v_34) (fun S_35 => some (S_35, ())))))))))
def f_X12_product_38 (g_X12_both : xSt → Option (xSt × Unit)) (g_X12_compared : xSt → Option (xSt × Unit)) (g_X12_either : xSt → Option (xSt × Unit)) (g_X12_operand : xSt → Option (xSt × Unit)) (g_X12_product : xSt → Option (xSt × Unit)) (g_X12_sum : xSt → Option (xSt × Unit)) (S : xSt) : Option (xSt ⊕ (xSt × Unit)) :=
  xob (f_X12_look S) (fun S_1 v_2 => xbd (S_1.1 0 18) (fun v_3 => xbd (v_3 + (1 : Int32)) (fun v_4 => xbd (xsi S_1 0 18 v_4) (fun S_5 => xob (g_X12_operand S_5) (fun S_6 v_7 => xob (f_X12_addStep S_6 v_2 (0 : Int32)) (fun S_8 v_9 => some (.inl S_8)))))))
def f_X12_product_4 (g_X12_both : xSt → Option (xSt × Unit)) (g_X12_compared : xSt → Option (xSt × Unit)) (g_X12_either : xSt → Option (xSt × Unit)) (g_X12_operand : xSt → Option (xSt × Unit)) (g_X12_product : xSt → Option (xSt × Unit)) (g_X12_sum : xSt → Option (xSt × Unit)) (S : xSt) : Option (xSt ⊕ (xSt × Unit)) :=
  xbd (S.1 0 19) (fun v_1 => if 0 ≤ v_1 then (some (.inr (S, ()))) else (xob (f_X12_look S) (fun S_3 v_4 => if v_4 = (42 : Int32) then (f_X12_product_38 g_X12_both g_X12_compared g_X12_either g_X12_operand g_X12_product g_X12_sum S_3) else (xob (f_X12_look S_3) (fun S_6 v_7 => if v_7 = (47 : Int32) then (f_X12_product_38 g_X12_both g_X12_compared g_X12_either g_X12_operand g_X12_product g_X12_sum S_6) else (xob (f_X12_look S_6) (fun S_9 v_10 => if ¬ v_10 = (37 : Int32) then (some (.inr (S_9, ()))) else (f_X12_product_38 g_X12_both g_X12_compared g_X12_either g_X12_operand g_X12_product g_X12_sum S_9))))))))
def f_X12_product_0 (g_X12_both : xSt → Option (xSt × Unit)) (g_X12_compared : xSt → Option (xSt × Unit)) (g_X12_either : xSt → Option (xSt × Unit)) (g_X12_operand : xSt → Option (xSt × Unit)) (g_X12_product : xSt → Option (xSt × Unit)) (g_X12_sum : xSt → Option (xSt × Unit)) (S : xSt) : Option (xSt × Unit) :=
  xob (g_X12_operand S) (fun S_1 v_2 => xlp (fun q : xSt => f_X12_product_4 g_X12_both g_X12_compared g_X12_either g_X12_operand g_X12_product g_X12_sum q) 5000 S_1)
def f_X12_sum_29 (g_X12_both : xSt → Option (xSt × Unit)) (g_X12_compared : xSt → Option (xSt × Unit)) (g_X12_either : xSt → Option (xSt × Unit)) (g_X12_operand : xSt → Option (xSt × Unit)) (g_X12_product : xSt → Option (xSt × Unit)) (g_X12_sum : xSt → Option (xSt × Unit)) (S : xSt) : Option (xSt ⊕ (xSt × Unit)) :=
  xob (f_X12_look S) (fun S_1 v_2 => xbd (S_1.1 0 18) (fun v_3 => xbd (v_3 + (1 : Int32)) (fun v_4 => xbd (xsi S_1 0 18 v_4) (fun S_5 => xob (g_X12_product S_5) (fun S_6 v_7 => xob (f_X12_addStep S_6 v_2 (0 : Int32)) (fun S_8 v_9 => some (.inl S_8)))))))
def f_X12_sum_4 (g_X12_both : xSt → Option (xSt × Unit)) (g_X12_compared : xSt → Option (xSt × Unit)) (g_X12_either : xSt → Option (xSt × Unit)) (g_X12_operand : xSt → Option (xSt × Unit)) (g_X12_product : xSt → Option (xSt × Unit)) (g_X12_sum : xSt → Option (xSt × Unit)) (S : xSt) : Option (xSt ⊕ (xSt × Unit)) :=
  xbd (S.1 0 19) (fun v_1 => if 0 ≤ v_1 then (some (.inr (S, ()))) else (xob (f_X12_look S) (fun S_3 v_4 => if v_4 = (43 : Int32) then (f_X12_sum_29 g_X12_both g_X12_compared g_X12_either g_X12_operand g_X12_product g_X12_sum S_3) else (xob (f_X12_look S_3) (fun S_6 v_7 => if ¬ v_7 = (45 : Int32) then (some (.inr (S_6, ()))) else (f_X12_sum_29 g_X12_both g_X12_compared g_X12_either g_X12_operand g_X12_product g_X12_sum S_6))))))
def f_X12_sum_0 (g_X12_both : xSt → Option (xSt × Unit)) (g_X12_compared : xSt → Option (xSt × Unit)) (g_X12_either : xSt → Option (xSt × Unit)) (g_X12_operand : xSt → Option (xSt × Unit)) (g_X12_product : xSt → Option (xSt × Unit)) (g_X12_sum : xSt → Option (xSt × Unit)) (S : xSt) : Option (xSt × Unit) :=
  xob (g_X12_product S) (fun S_1 v_2 => xlp (fun q : xSt => f_X12_sum_4 g_X12_both g_X12_compared g_X12_either g_X12_operand g_X12_product g_X12_sum q) 5000 S_1)
def F_X12_both : Nat → (xSt → Option (xSt × Unit)) × (xSt → Option (xSt × Unit)) × (xSt → Option (xSt × Unit)) × (xSt → Option (xSt × Unit)) × (xSt → Option (xSt × Unit)) × (xSt → Option (xSt × Unit))
  | 0 => ((fun _ => none), (fun _ => none), (fun _ => none), (fun _ => none), (fun _ => none), (fun _ => none))
  | d + 1 => ((fun S => f_X12_both_0 ((F_X12_both d).1) ((F_X12_both d).2.1) ((F_X12_both d).2.2.1) ((F_X12_both d).2.2.2.1) ((F_X12_both d).2.2.2.2.1) ((F_X12_both d).2.2.2.2.2) S), (fun S => f_X12_compared_0 ((F_X12_both d).1) ((F_X12_both d).2.1) ((F_X12_both d).2.2.1) ((F_X12_both d).2.2.2.1) ((F_X12_both d).2.2.2.2.1) ((F_X12_both d).2.2.2.2.2) S), (fun S => f_X12_either_0 ((F_X12_both d).1) ((F_X12_both d).2.1) ((F_X12_both d).2.2.1) ((F_X12_both d).2.2.2.1) ((F_X12_both d).2.2.2.2.1) ((F_X12_both d).2.2.2.2.2) S), (fun S => f_X12_operand_0 ((F_X12_both d).1) ((F_X12_both d).2.1) ((F_X12_both d).2.2.1) ((F_X12_both d).2.2.2.1) ((F_X12_both d).2.2.2.2.1) ((F_X12_both d).2.2.2.2.2) S), (fun S => f_X12_product_0 ((F_X12_both d).1) ((F_X12_both d).2.1) ((F_X12_both d).2.2.1) ((F_X12_both d).2.2.2.1) ((F_X12_both d).2.2.2.2.1) ((F_X12_both d).2.2.2.2.2) S), (fun S => f_X12_sum_0 ((F_X12_both d).1) ((F_X12_both d).2.1) ((F_X12_both d).2.2.1) ((F_X12_both d).2.2.2.1) ((F_X12_both d).2.2.2.2.1) ((F_X12_both d).2.2.2.2.2) S))
def f_X12_both (d : Nat) : xSt → Option (xSt × Unit) := (F_X12_both d).1
def f_X12_compared (d : Nat) : xSt → Option (xSt × Unit) := (F_X12_both d).2.1
def f_X12_either (d : Nat) : xSt → Option (xSt × Unit) := (F_X12_both d).2.2.1
def f_X12_operand (d : Nat) : xSt → Option (xSt × Unit) := (F_X12_both d).2.2.2.1
def f_X12_product (d : Nat) : xSt → Option (xSt × Unit) := (F_X12_both d).2.2.2.2.1
def f_X12_sum (d : Nat) : xSt → Option (xSt × Unit) := (F_X12_both d).2.2.2.2.2
def f_X12_line_66 (x1 : Int32) (S : xSt) : Option (xSt × Unit) :=
  xbd (S.1 0 21) (fun v_1 => xbd (v_1.toInt16.toInt32) (fun v_2 => xgd (xin x1 122) (xbd (xsi S 19 x1.toNatClampNeg (v_2.toInt16.toInt32)) (fun S_3 => xgd (xin (1 : Int32) 2) (xbd (S_3.1 17 (1 : Int32).toNatClampNeg) (fun v_4 => xbd (v_4 + (1 : Int32)) (fun v_5 => xgd (xin (1 : Int32) 2) (xbd (xsi S_3 17 (1 : Int32).toNatClampNeg v_5) (fun S_6 => some (S_6, ()))))))))))
def f_X12_line_0 (S : xSt) : Option (xSt × Unit) :=
  xgd (xin (1 : Int32) 2) (xbd (S.1 17 (1 : Int32).toNatClampNeg) (fun v_1 => xbd ((61 : Int32) + v_1) (fun v_2 => xbd (S.1 0 21) (fun v_3 => xbd (v_3.toInt16.toInt32) (fun v_4 => xgd (xin v_2 122) (xbd (xsi S 18 v_2.toNatClampNeg (v_4.toInt16.toInt32)) (fun S_5 => xob (f_X12_either 70 S_5) (fun S_6 v_7 => xbd (S_6.1 0 19) (fun v_8 => if 0 ≤ v_8 then (f_X12_line_66 v_2 S_6) else (xob (f_X12_look S_6) (fun S_10 v_11 => if ¬ v_11 = (63 : Int32) then (f_X12_line_66 v_2 S_10) else (xbd (S_10.1 0 18) (fun v_13 => xbd (v_13 + (1 : Int32)) (fun v_14 => xbd (xsi S_10 0 18 v_14) (fun S_15 => xbd (S_15.1 0 21) (fun v_16 => xbd (v_16.toInt16.toInt32) (fun v_17 => xgd (xin v_2 122) (xbd (xsi S_15 18 v_2.toNatClampNeg (v_17.toInt16.toInt32)) (fun S_18 => xob (f_X12_either 70 S_18) (fun S_19 v_20 => f_X12_line_66 v_2 S_19))))))))))))))))))))
def f_X12_line (S : xSt) : Option (xSt × Unit) := f_X12_line_0 S
def f_X12_readText_177 (x1 : Int32) (S : xSt) (x2 : Int32) : Option ((xSt × Int32) ⊕ (xSt × Int32)) :=
  xgd (xin x1 2) (xbd (S.1 17 x1.toNatClampNeg) (fun v_1 => if v_1 ≤ x2 then (some (.inr (S, (-1 : Int32)))) else (xbd ((61 : Int32) * x1) (fun v_3 => xbd (v_3 + x2) (fun v_4 => xbd ((61 : Int32) + x2) (fun v_5 => xgd (xin v_5 122) (xbd (S.1 18 v_5.toNatClampNeg) (fun v_6 => xgd (xin v_4 122) (xbd (xsi S 18 v_4.toNatClampNeg (v_6.toInt16.toInt32)) (fun S_7 => xbd ((61 : Int32) * x1) (fun v_8 => xbd (v_8 + x2) (fun v_9 => xbd ((61 : Int32) + x2) (fun v_10 => xgd (xin v_10 122) (xbd (S_7.1 19 v_10.toNatClampNeg) (fun v_11 => xgd (xin v_9 122) (xbd (xsi S_7 19 v_9.toNatClampNeg (v_11.toInt16.toInt32)) (fun S_12 => xbd (x2 + (1 : Int32)) (fun v_13 => some (.inl (S_12, v_13))))))))))))))))))))
def f_X12_readText_163 (x1 : Int32) (S : xSt) : Option (xSt × Int32) :=
  xgd (xin (1 : Int32) 2) (xbd (S.1 17 (1 : Int32).toNatClampNeg) (fun v_1 => xgd (xin x1 2) (xbd (xsi S 17 x1.toNatClampNeg v_1) (fun S_2 => xlp (fun q : (xSt × Int32) => f_X12_readText_177 x1 q.1 q.2) 5000 (S_2, (0 : Int32))))))
def f_X12_readText_105 (x1 : Int32) (S : xSt) (x2 : Int32) : Option ((xSt × Int32) ⊕ (xSt × Int32)) :=
  xbd (S.1 0 21) (fun v_1 => if v_1 ≤ x2 then (xmr (f_X12_readText_163 x1 S)) else (xbd ((130 : Int32) * x1) (fun v_3 => xbd (v_3 + x2) (fun v_4 => xbd ((130 : Int32) + x2) (fun v_5 => xgd (xin v_5 260) (xbd (S.1 15 v_5.toNatClampNeg) (fun v_6 => xgd (xin v_4 260) (xbd (xsi S 15 v_4.toNatClampNeg (v_6.toInt8.toInt32)) (fun S_7 => xbd ((130 : Int32) * x1) (fun v_8 => xbd (v_8 + x2) (fun v_9 => xbd ((130 : Int32) + x2) (fun v_10 => xgd (xin v_10 260) (xbd (S_7.1 16 v_10.toNatClampNeg) (fun v_11 => xgd (xin v_9 260) (xbd (xsi S_7 16 v_9.toNatClampNeg v_11) (fun S_12 => xbd (x2 + (1 : Int32)) (fun v_13 => some (.inl (S_12, v_13)))))))))))))))))))
def f_X12_readText_86 (x1 : Int32) (S : xSt) : Option (xSt × Int32) :=
  xbd (xsi S 0 17 (0 : Int32)) (fun S_1 => xbd (S_1.1 0 19) (fun v_2 => if v_2 < 0 then (xlp (fun q : (xSt × Int32) => f_X12_readText_105 x1 q.1 q.2) 5000 (S_1, (0 : Int32))) else (xbd (S_1.1 0 19) (fun v_4 => some (S_1, v_4)))))
def f_X12_readText_64 (x1 : Int32) (S : xSt) : Option (xSt × Int32) :=
  xbd (S.1 0 19) (fun v_1 => if 0 ≤ v_1 then (f_X12_readText_86 x1 S) else (xbd (S.1 0 18) (fun v_3 => xbd (S.1 0 17) (fun v_4 => if v_4 ≤ v_3 then (f_X12_readText_86 x1 S) else (xob (f_X12_wrong S) (fun S_6 v_7 => f_X12_readText_86 x1 S_6))))))
def f_X12_readText_31 (x1 : Int32) (S : xSt) : Option (xSt ⊕ (xSt × Int32)) :=
  xbd (S.1 0 19) (fun v_1 => if 0 ≤ v_1 then (xmr (f_X12_readText_64 x1 S)) else (xob (f_X12_look S) (fun S_3 v_4 => if ¬ v_4 = (59 : Int32) then (xmr (f_X12_readText_64 x1 S_3)) else (xbd (S_3.1 0 18) (fun v_6 => xbd (v_6 + (1 : Int32)) (fun v_7 => xbd (xsi S_3 0 18 v_7) (fun S_8 => xob (f_X12_line S_8) (fun S_9 v_10 => some (.inl S_9)))))))))
def f_X12_readText_0 (x1 : Int32) (S : xSt) : Option (xSt × Int32) :=
  xbd (xsi S 0 18 (0 : Int32)) (fun S_1 => xbd (xsi S_1 0 19 (-1 : Int32)) (fun S_2 => xbd (xsi S_2 0 20 (0 : Int32)) (fun S_3 => xbd (xsi S_3 0 21 (0 : Int32)) (fun S_4 => xgd (xin (1 : Int32) 2) (xbd (xsi S_4 17 (1 : Int32).toNatClampNeg (0 : Int32)) (fun S_5 => xob (f_X12_line S_5) (fun S_6 v_7 => xlp (fun q : xSt => f_X12_readText_31 x1 q) 5000 S_6)))))))
def f_X12_readText (S : xSt) (x1 : Int32) : Option (xSt × Int32) := f_X12_readText_0 x1 S
def f_X12_twoOf_163 (S : xSt) : Option (xSt × Int32) :=
  some (S, (0 : Int32))
def f_X12_twoOf_216 (S : xSt) : Option (xSt × Int32) :=
  some (S, (0 : Int32))
def f_X12_twoOf_226 (S : xSt) : Option (xSt × Int32) :=
  some (S, (1 : Int32))
def f_X12_twoOf_0 (x0 : Int32) (x1 : Int32) (x2 : Int32) (S : xSt) : Option (xSt × Int32) :=
  if x0 = (37 : Int32) then (if x2 = 0 then (f_X12_twoOf_163 S) else (if ¬ x2 = (-1 : Int32) then (xgd (¬ x2 = 0) (xbd (x1 - x1 / x2 * x2) (fun v_4 => some (S, v_4)))) else (f_X12_twoOf_163 S))) else (if x0 = (38 : Int32) then (if x1 = 0 then (f_X12_twoOf_216 S) else (if x2 = 0 then (f_X12_twoOf_216 S) else (some (S, (1 : Int32))))) else (if x0 = (39 : Int32) then (if ¬ x1 = 0 then (f_X12_twoOf_226 S) else (if x2 = 0 then (some (S, (0 : Int32))) else (f_X12_twoOf_226 S))) else (if x0 = (40 : Int32) then (if ¬ x1 = 0 then (f_X12_twoOf_226 S) else (if x2 = 0 then (some (S, (0 : Int32))) else (f_X12_twoOf_226 S))) else (if x0 = (41 : Int32) then (if ¬ x1 = 0 then (f_X12_twoOf_226 S) else (if x2 = 0 then (some (S, (0 : Int32))) else (f_X12_twoOf_226 S))) else (if x0 = (42 : Int32) then (xbd (x1 * x2) (fun v_18 => some (S, v_18))) else (if x0 = (43 : Int32) then (xbd (x1 + x2) (fun v_20 => some (S, v_20))) else (if x0 = (44 : Int32) then (if ¬ x1 = 0 then (f_X12_twoOf_226 S) else (if x2 = 0 then (some (S, (0 : Int32))) else (f_X12_twoOf_226 S))) else (if x0 = (45 : Int32) then (xbd (x1 - x2) (fun v_25 => some (S, v_25))) else (if x0 = (46 : Int32) then (if ¬ x1 = 0 then (f_X12_twoOf_226 S) else (if x2 = 0 then (some (S, (0 : Int32))) else (f_X12_twoOf_226 S))) else (if x0 = (47 : Int32) then (if ¬ x2 = 0 then (if ¬ x2 = (-1 : Int32) then (xgd (¬ x2 = 0) (xbd (x1 / x2) (fun v_32 => some (S, v_32)))) else (xbd (-x1) (fun v_33 => some (S, v_33)))) else (some (S, (0 : Int32)))) else (if x0 = (48 : Int32) then (if ¬ x1 = 0 then (f_X12_twoOf_226 S) else (if x2 = 0 then (some (S, (0 : Int32))) else (f_X12_twoOf_226 S))) else (if x0 = (49 : Int32) then (if ¬ x1 = 0 then (f_X12_twoOf_226 S) else (if x2 = 0 then (some (S, (0 : Int32))) else (f_X12_twoOf_226 S))) else (if x0 = (50 : Int32) then (if ¬ x1 = 0 then (f_X12_twoOf_226 S) else (if x2 = 0 then (some (S, (0 : Int32))) else (f_X12_twoOf_226 S))) else (if x0 = (51 : Int32) then (if ¬ x1 = 0 then (f_X12_twoOf_226 S) else (if x2 = 0 then (some (S, (0 : Int32))) else (f_X12_twoOf_226 S))) else (if x0 = (52 : Int32) then (if ¬ x1 = 0 then (f_X12_twoOf_226 S) else (if x2 = 0 then (some (S, (0 : Int32))) else (f_X12_twoOf_226 S))) else (if x0 = (53 : Int32) then (if ¬ x1 = 0 then (f_X12_twoOf_226 S) else (if x2 = 0 then (some (S, (0 : Int32))) else (f_X12_twoOf_226 S))) else (if x0 = (54 : Int32) then (if ¬ x1 = 0 then (f_X12_twoOf_226 S) else (if x2 = 0 then (some (S, (0 : Int32))) else (f_X12_twoOf_226 S))) else (if x0 = (55 : Int32) then (if ¬ x1 = 0 then (f_X12_twoOf_226 S) else (if x2 = 0 then (some (S, (0 : Int32))) else (f_X12_twoOf_226 S))) else (if x0 = (56 : Int32) then (if ¬ x1 = 0 then (f_X12_twoOf_226 S) else (if x2 = 0 then (some (S, (0 : Int32))) else (f_X12_twoOf_226 S))) else (if x0 = (57 : Int32) then (if ¬ x1 = 0 then (f_X12_twoOf_226 S) else (if x2 = 0 then (some (S, (0 : Int32))) else (f_X12_twoOf_226 S))) else (if x0 = (58 : Int32) then (if ¬ x1 = 0 then (f_X12_twoOf_226 S) else (if x2 = 0 then (some (S, (0 : Int32))) else (f_X12_twoOf_226 S))) else (if x0 = (59 : Int32) then (if ¬ x1 = 0 then (f_X12_twoOf_226 S) else (if x2 = 0 then (some (S, (0 : Int32))) else (f_X12_twoOf_226 S))) else (if x0 = (60 : Int32) then (if x2 ≤ x1 then (some (S, (0 : Int32))) else (some (S, (1 : Int32)))) else (if x0 = (61 : Int32) then (if ¬ x1 = x2 then (some (S, (0 : Int32))) else (some (S, (1 : Int32)))) else (if x0 = (62 : Int32) then (if x1 ≤ x2 then (some (S, (0 : Int32))) else (some (S, (1 : Int32)))) else (if ¬ x1 = 0 then (f_X12_twoOf_226 S) else (if x2 = 0 then (some (S, (0 : Int32))) else (f_X12_twoOf_226 S))))))))))))))))))))))))))))
def f_X12_twoOf (S : xSt) (x0 : Int32) (x1 : Int32) (x2 : Int32) : Option (xSt × Int32) := f_X12_twoOf_0 x0 x1 x2 S
def f_X12_worked_182 (x1 : Int32) (x3 : Int32) (x4 : Int32) (x5 : Int32) (S : xSt) : Option ((xSt × Int32 × Int32) ⊕ (xSt × Int32)) :=
  xbd (x5 + (1 : Int32)) (fun v_1 => some (.inl (S, x4, v_1)))
def f_X12_worked_79 (x1 : Int32) (x3 : Int32) (x4 : Int32) (x5 : Int32) (y1 : Int32) (y2 : Int32) (S : xSt) : Option ((xSt × Int32 × Int32) ⊕ (xSt × Int32)) :=
  xgd (xin y1 130) (xbd (xsi S 21 y1.toNatClampNeg y2) (fun S_1 => xbd (x4 + (1 : Int32)) (fun v_2 => f_X12_worked_182 x1 x3 v_2 x5 S_1)))
def f_X12_worked_45 (x1 : Int32) (x3 : Int32) (x4 : Int32) (x5 : Int32) (x6 : Int32) (S : xSt) : Option ((xSt × Int32 × Int32) ⊕ (xSt × Int32)) :=
  if ¬ x6 = (1 : Int32) then (xgd (xin x5 260) (xbd (S.1 16 x5.toNatClampNeg) (fun v_2 => xgd (xin v_2 6) (xbd (S.1 20 v_2.toNatClampNeg) (fun v_3 => f_X12_worked_79 x1 x3 x4 x5 x4 v_3 S))))) else (xgd (xin x5 260) (xbd (S.1 16 x5.toNatClampNeg) (fun v_4 => f_X12_worked_79 x1 x3 x4 x5 x4 v_4 S)))
def f_X12_worked_117 (x1 : Int32) (x3 : Int32) (x4 : Int32) (x5 : Int32) (y1 : Int32) (y2 : Int32) (S : xSt) : Option ((xSt × Int32 × Int32) ⊕ (xSt × Int32)) :=
  xgd (xin y1 130) (xbd (xsi S 21 y1.toNatClampNeg y2) (fun S_1 => f_X12_worked_182 x1 x3 x4 x5 S_1))
def f_X12_worked_188 (S : xSt) : Option (xSt × Int32) :=
  xgd (xin (0 : Int32) 130) (xbd (S.1 21 (0 : Int32).toNatClampNeg) (fun v_1 => some (S, v_1)))
def f_X12_worked_12 (x1 : Int32) (x3 : Int32) (S : xSt) (x4 : Int32) (x5 : Int32) : Option ((xSt × Int32 × Int32) ⊕ (xSt × Int32)) :=
  xbd ((130 : Int32) * x1) (fun v_1 => xbd (v_1 + x3) (fun v_2 => if v_2 ≤ x5 then (xmr (f_X12_worked_188 S)) else (xgd (xin x5 260) (xbd (S.1 15 x5.toNatClampNeg) (fun v_4 => if v_4 = (1 : Int32) then (f_X12_worked_45 x1 x3 x4 x5 v_4 S) else (if ¬ v_4 = (2 : Int32) then (if ¬ v_4 = (3 : Int32) then (if ¬ v_4 = (4 : Int32) then (xbd (x4 + (-1 : Int32)) (fun v_9 => xbd (v_9 - (1 : Int32)) (fun v_10 => xbd (v_9 - (1 : Int32)) (fun v_11 => xgd (xin v_11 130) (xbd (S.1 21 v_11.toNatClampNeg) (fun v_12 => xgd (xin v_9 130) (xbd (S.1 21 v_9.toNatClampNeg) (fun v_13 => xob (f_X12_twoOf S v_4 v_12 v_13) (fun S_14 v_15 => xgd (xin v_10 130) (xbd (xsi S_14 21 v_10.toNatClampNeg v_15) (fun S_16 => f_X12_worked_182 x1 x3 v_9 x5 S_16))))))))))) else (xbd (x4 - (1 : Int32)) (fun v_17 => xbd (x4 - (1 : Int32)) (fun v_18 => xgd (xin v_18 130) (xbd (S.1 21 v_18.toNatClampNeg) (fun v_19 => xbd (-v_19) (fun v_20 => xgd (xin v_17 130) (xbd (xsi S 21 v_17.toNatClampNeg v_20) (fun S_21 => f_X12_worked_182 x1 x3 x4 x5 S_21))))))))) else (xbd (x4 - (1 : Int32)) (fun v_22 => xbd (x4 - (1 : Int32)) (fun v_23 => xgd (xin v_23 130) (xbd (S.1 21 v_23.toNatClampNeg) (fun v_24 => if ¬ v_24 = 0 then (f_X12_worked_117 x1 x3 x4 x5 v_22 ((0 : Int32)) S) else (f_X12_worked_117 x1 x3 x4 x5 v_22 ((1 : Int32)) S))))))) else (f_X12_worked_45 x1 x3 x4 x5 v_4 S)))))))
def f_X12_worked_0 (x1 : Int32) (x2 : Int32) (x3 : Int32) (S : xSt) : Option (xSt × Int32) :=
  xbd ((130 : Int32) * x1) (fun v_1 => xbd (v_1 + x2) (fun v_2 => xlp (fun q : (xSt × Int32 × Int32) => f_X12_worked_12 x1 x3 q.1 q.2.1 q.2.2) 5000 (S, (0 : Int32), v_2)))
def f_X12_worked (S : xSt) (x1 : Int32) (x2 : Int32) (x3 : Int32) : Option (xSt × Int32) := f_X12_worked_0 x1 x2 x3 S
def f_X12_gives_47 (x1 : Int32) (x3 : Int32) (S : xSt) : Option (xSt × Int32) :=
  xgd (xin x3 122) (xbd (S.1 18 x3.toNatClampNeg) (fun v_1 => xgd (xin x3 122) (xbd (S.1 19 x3.toNatClampNeg) (fun v_2 => xob (f_X12_worked S x1 v_1 v_2) (fun S_3 v_4 => some (S_3, v_4))))))
def f_X12_gives_7 (x1 : Int32) (S : xSt) (x2 : Int32) (x3 : Int32) : Option ((xSt × Int32 × Int32) ⊕ (xSt × Int32)) :=
  xbd ((61 : Int32) * x1) (fun v_1 => xgd (xin x1 2) (xbd (S.1 17 x1.toNatClampNeg) (fun v_2 => xbd (v_1 + v_2) (fun v_3 => if v_3 ≤ x3 then (some (.inr (S, (0 : Int32)))) else (xgd (xin x3 122) (xbd (S.1 18 x3.toNatClampNeg) (fun v_5 => if v_5 = x2 then (xmr (f_X12_gives_47 x1 x3 S)) else (xgd (xin x3 122) (xbd (S.1 18 x3.toNatClampNeg) (fun v_7 => xob (f_X12_worked S x1 x2 v_7) (fun S_8 v_9 => if v_9 = 0 then (xgd (xin x3 122) (xbd (S_8.1 19 x3.toNatClampNeg) (fun v_11 => xbd (x3 + (1 : Int32)) (fun v_12 => some (.inl (S_8, v_11, v_12)))))) else (xmr (f_X12_gives_47 x1 x3 S_8)))))))))))))
def f_X12_gives_0 (x1 : Int32) (S : xSt) : Option (xSt × Int32) :=
  xbd ((61 : Int32) * x1) (fun v_1 => xlp (fun q : (xSt × Int32 × Int32) => f_X12_gives_7 x1 q.1 q.2.1 q.2.2) 5000 (S, (0 : Int32), v_1))
def f_X12_gives (S : xSt) (x1 : Int32) : Option (xSt × Int32) := f_X12_gives_0 x1 S
def f_X12_law_0 (S : xSt) : Option (xSt × Int32) :=
  xob (f_X12_readText S (0 : Int32)) (fun S_1 v_2 => if v_2 < 0 then (xbd (xsi S_1 0 29 (1 : Int32)) (fun S_4 => some (S_4, (1 : Int32)))) else (xbd ((-100 : Int32) - v_2) (fun v_5 => some (S_1, v_5))))
def f_X12_law (S : xSt) : Option (xSt × Int32) := f_X12_law_0 S
def f_X12_layNow_40 (S : xSt) (x1 : Int32) : Option ((xSt × Int32) ⊕ (xSt × Unit)) :=
  if (30 : Int32) ≤ x1 then (some (.inr (S, ()))) else (xgd (xin x1 30) (xbd (S.1 2 x1.toNatClampNeg) (fun v_2 => xgd (xin x1 30) (xbd (xsi S 23 x1.toNatClampNeg v_2) (fun S_3 => xgd (xin x1 30) (xbd (S_3.1 3 x1.toNatClampNeg) (fun v_4 => xgd (xin x1 30) (xbd (xsi S_3 24 x1.toNatClampNeg v_4) (fun S_5 => xgd (xin x1 30) (xbd (S_5.1 4 x1.toNatClampNeg) (fun v_6 => xgd (xin x1 30) (xbd (xsi S_5 25 x1.toNatClampNeg v_6) (fun S_7 => xgd (xin x1 30) (xbd (S_7.1 5 x1.toNatClampNeg) (fun v_8 => xgd (xin x1 30) (xbd (xsi S_7 26 x1.toNatClampNeg v_8) (fun S_9 => xbd (x1 + (1 : Int32)) (fun v_10 => some (.inl (S_9, v_10))))))))))))))))))))
def f_X12_layNow_38 (S : xSt) : Option (xSt × Unit) :=
  xlp (fun q : (xSt × Int32) => f_X12_layNow_40 q.1 q.2) 5000 (S, (0 : Int32))
def f_X12_layNow_2 (S : xSt) (x1 : Int32) : Option ((xSt × Int32) ⊕ (xSt × Unit)) :=
  if (6 : Int32) ≤ x1 then (xmr (f_X12_layNow_38 S)) else (xgd (xin x1 6) (xbd (S.1 1 x1.toNatClampNeg) (fun v_2 => xgd (xin x1 6) (xbd (xsi S 22 x1.toNatClampNeg v_2) (fun S_3 => xgd (xin x1 6) (xbd (S_3.1 7 x1.toNatClampNeg) (fun v_4 => xgd (xin x1 6) (xbd (xsi S_3 27 x1.toNatClampNeg v_4) (fun S_5 => xbd (x1 + (1 : Int32)) (fun v_6 => some (.inl (S_5, v_6))))))))))))
def f_X12_layNow_0 (S : xSt) : Option (xSt × Unit) :=
  xlp (fun q : (xSt × Int32) => f_X12_layNow_2 q.1 q.2) 5000 (S, (0 : Int32))
def f_X12_layNow (S : xSt) : Option (xSt × Unit) := f_X12_layNow_0 S
def f_X12_isThere_27 (S : xSt) : Option (xSt × Int32) :=
  xgd ((0 : Int32) = 0 ∨ (0 : Int32) = 1) (some (S, (0 : Int32)))
def f_X12_isThere_0 (x1 : Int32) (x2 : Int32) (S : xSt) : Option (xSt × Int32) :=
  xob (f_X12_isColumn S x1) (fun S_1 v_2 => if v_2 = 0 then (f_X12_isThere_27 S_1) else (xgd (xin x1 6) (xbd (S_1.1 22 x1.toNatClampNeg) (fun v_4 => xbd (v_4 - (1 : Int32)) (fun v_5 => xob (f_X12_in S_1 x2 (0 : Int32) v_5) (fun S_6 v_7 => if v_7 = 0 then (f_X12_isThere_27 S_6) else (xgd ((1 : Int32) = 0 ∨ (1 : Int32) = 1) (some (S_6, (1 : Int32))))))))))
def f_X12_isThere (S : xSt) (x1 : Int32) (x2 : Int32) : Option (xSt × Int32) := f_X12_isThere_0 x1 x2 S
def f_X12_beside_45 (x3 : Int32) (y0 : Int32) (y1 : Int32) (S : xSt) : Option (xSt × Int32) :=
  xbd (y0 + y1) (fun v_1 => xob (f_X12_isThere S x3 v_1) (fun S_2 v_3 => if v_3 = 0 then (some (S_2, (-2 : Int32))) else (xbd ((5 : Int32) * x3) (fun v_5 => xbd (v_5 + v_1) (fun v_6 => some (S_2, v_6))))))
def f_X12_beside_22 (x1 : Int32) (x2 : Int32) (y0 : Int32) (y1 : Int32) (S : xSt) : Option (xSt × Int32) :=
  xbd (y0 + y1) (fun v_1 => xgd (¬ (5 : Int32) = 0) (xbd (x1 - x1 / (5 : Int32) * (5 : Int32)) (fun v_2 => if ¬ x2 = 0 then (if ¬ x2 = (1 : Int32) then (f_X12_beside_45 v_1 v_2 ((0 : Int32)) S) else (f_X12_beside_45 v_1 v_2 ((-1 : Int32)) S)) else (f_X12_beside_45 v_1 v_2 ((1 : Int32)) S))))
def f_X12_beside_0 (x1 : Int32) (x2 : Int32) (S : xSt) : Option (xSt × Int32) :=
  xgd (¬ (5 : Int32) = 0) (xbd (x1 / (5 : Int32)) (fun v_1 => if ¬ x2 = (2 : Int32) then (if ¬ x2 = (3 : Int32) then (f_X12_beside_22 x1 x2 v_1 ((0 : Int32)) S) else (f_X12_beside_22 x1 x2 v_1 ((1 : Int32)) S)) else (f_X12_beside_22 x1 x2 v_1 ((-1 : Int32)) S)))
def f_X12_beside (S : xSt) (x1 : Int32) (x2 : Int32) : Option (xSt × Int32) := f_X12_beside_0 x1 x2 S
def f_X12_airOf_42 (x1 : Int32) (x2 : Int32) (x3 : Int32) (S : xSt) : Option ((xSt × Int32 × Int32) ⊕ (xSt × Int32)) :=
  xbd (x3 + (1 : Int32)) (fun v_1 => some (.inl (S, x2, v_1)))
def f_X12_airOf_20 (x1 : Int32) (S : xSt) (x2 : Int32) (x3 : Int32) : Option ((xSt × Int32 × Int32) ⊕ (xSt × Int32)) :=
  if (4 : Int32) ≤ x3 then (some (.inr (S, x2))) else (if x3 = (1 : Int32) then (f_X12_airOf_42 x1 x2 x3 S) else (xob (f_X12_beside S x1 x3) (fun S_3 v_4 => if 0 ≤ v_4 then (f_X12_airOf_42 x1 x2 x3 S_3) else (xbd (x2 + (1 : Int32)) (fun v_6 => f_X12_airOf_42 x1 v_6 x3 S_3)))))
def f_X12_airOf_17 (x1 : Int32) (y0 : Int32) (S : xSt) : Option (xSt × Int32) :=
  xlp (fun q : (xSt × Int32 × Int32) => f_X12_airOf_20 x1 q.1 q.2.1 q.2.2) 5000 (S, y0, (0 : Int32))
def f_X12_airOf_0 (x1 : Int32) (S : xSt) : Option (xSt × Int32) :=
  xgd (¬ (5 : Int32) = 0) (xbd (x1 / (5 : Int32)) (fun v_1 => xgd (xin v_1 6) (xbd (S.1 27 v_1.toNatClampNeg) (fun v_2 => if ¬ v_2 = (1 : Int32) then (f_X12_airOf_17 x1 ((0 : Int32)) S) else (f_X12_airOf_17 x1 ((2 : Int32)) S)))))
def f_X12_airOf (S : xSt) (x1 : Int32) : Option (xSt × Int32) := f_X12_airOf_0 x1 S
def f_X12_meanBeside_43 (x1 : Int32) (x2 : Int32) (x3 : Int32) (x4 : Int32) (S : xSt) : Option ((xSt × Int32 × Int32 × Int32) ⊕ (xSt × Int32)) :=
  xbd (x4 + (1 : Int32)) (fun v_1 => some (.inl (S, x2, x3, v_1)))
def f_X12_meanBeside_49 (x2 : Int32) (x3 : Int32) (S : xSt) : Option (xSt × Int32) :=
  if ¬ x2 = 0 then (xgd (¬ x2 = 0) (xbd (x3 / x2) (fun v_2 => some (S, v_2)))) else (some (S, (20 : Int32)))
def f_X12_meanBeside_7 (x1 : Int32) (S : xSt) (x2 : Int32) (x3 : Int32) (x4 : Int32) : Option ((xSt × Int32 × Int32 × Int32) ⊕ (xSt × Int32)) :=
  if (4 : Int32) ≤ x4 then (xmr (f_X12_meanBeside_49 x2 x3 S)) else (xob (f_X12_beside S x1 x4) (fun S_2 v_3 => if 0 ≤ v_3 then (xbd (x2 + (1 : Int32)) (fun v_5 => xgd (xin v_3 30) (xbd (S_2.1 24 v_3.toNatClampNeg) (fun v_6 => xbd (x3 + v_6) (fun v_7 => f_X12_meanBeside_43 x1 v_5 v_7 x4 S_2))))) else (f_X12_meanBeside_43 x1 x2 x3 x4 S_2)))
def f_X12_meanBeside_0 (x1 : Int32) (S : xSt) : Option (xSt × Int32) :=
  xlp (fun q : (xSt × Int32 × Int32 × Int32) => f_X12_meanBeside_7 x1 q.1 q.2.1 q.2.2.1 q.2.2.2) 5000 (S, (0 : Int32), (0 : Int32), (0 : Int32))
def f_X12_meanBeside (S : xSt) (x1 : Int32) : Option (xSt × Int32) := f_X12_meanBeside_0 x1 S
def f_X12_heatsBy_119 (x2 : Int32) (S : xSt) : Option (xSt × Int32) :=
  if (-20 : Int32) ≤ x2 then (if x2 ≤ (20 : Int32) then (some (S, x2)) else (some (S, (20 : Int32)))) else (some (S, (-20 : Int32)))
def f_X12_heatsBy_0 (x1 : Int32) (S : xSt) : Option (xSt × Int32) :=
  xgd (xin x1 30) (xbd (S.1 23 x1.toNatClampNeg) (fun v_1 => xbd ((2 : Int32) * v_1) (fun v_2 => xob (f_X12_airOf S x1) (fun S_3 v_4 => xbd (v_2 - v_4) (fun v_5 => xgd (xin x1 30) (xbd (S_3.1 26 x1.toNatClampNeg) (fun v_6 => xbd ((4 : Int32) * v_6) (fun v_7 => xbd (v_5 - v_7) (fun v_8 => xob (f_X12_meanBeside S_3 x1) (fun S_9 v_10 => xgd (xin x1 30) (xbd (S_9.1 24 x1.toNatClampNeg) (fun v_11 => xbd (v_10 - v_11) (fun v_12 => xgd (¬ (4 : Int32) = 0) (xbd (v_12 / (4 : Int32)) (fun v_13 => xbd (v_8 + v_13) (fun v_14 => xbd (S_9.1 0 29) (fun v_15 => if v_15 = 0 then (f_X12_heatsBy_119 v_14 S_9) else (xgd (xin x1 30) (xbd (S_9.1 23 x1.toNatClampNeg) (fun v_17 => xgd (xin (0 : Int32) 6) (xbd (xsi S_9 20 (0 : Int32).toNatClampNeg v_17) (fun S_18 => xgd (xin x1 30) (xbd (S_18.1 24 x1.toNatClampNeg) (fun v_19 => xgd (xin (1 : Int32) 6) (xbd (xsi S_18 20 (1 : Int32).toNatClampNeg v_19) (fun S_20 => xob (f_X12_airOf S_20 x1) (fun S_21 v_22 => xgd (xin (2 : Int32) 6) (xbd (xsi S_21 20 (2 : Int32).toNatClampNeg v_22) (fun S_23 => xgd (xin x1 30) (xbd (S_23.1 26 x1.toNatClampNeg) (fun v_24 => xgd (xin (3 : Int32) 6) (xbd (xsi S_23 20 (3 : Int32).toNatClampNeg v_24) (fun S_25 => xob (f_X12_meanBeside S_25 x1) (fun S_26 v_27 => xgd (xin (4 : Int32) 6) (xbd (xsi S_26 20 (4 : Int32).toNatClampNeg v_27) (fun S_28 => xgd (¬ (5 : Int32) = 0) (xbd (x1 - x1 / (5 : Int32) * (5 : Int32)) (fun v_29 => xgd (xin (5 : Int32) 6) (xbd (xsi S_28 20 (5 : Int32).toNatClampNeg v_29) (fun S_30 => xob (f_X12_gives S_30 (0 : Int32)) (fun S_31 v_32 => f_X12_heatsBy_119 v_32 S_31)))))))))))))))))))))))))))))))))))))))))
def f_X12_heatsBy (S : xSt) (x1 : Int32) : Option (xSt × Int32) := f_X12_heatsBy_0 x1 S
def f_X12_heats_0 (x1 : Int32) (S : xSt) : Option (xSt × Int32) :=
  xob (f_X12_isCell S x1) (fun S_1 v_2 => if ¬ v_2 = 0 then (xob (f_X12_layNow S_1) (fun S_4 v_5 => xob (f_X12_heatsBy S_4 x1) (fun S_6 v_7 => some (S_6, v_7)))) else (some (S_1, (-2000000000 : Int32))))
def f_X12_heats (S : xSt) (x1 : Int32) : Option (xSt × Int32) := f_X12_heats_0 x1 S
def f_X12_isThereNow_0 (x1 : Int32) (S : xSt) : Option (xSt × Int32) :=
  xgd (¬ (5 : Int32) = 0) (xbd (x1 - x1 / (5 : Int32) * (5 : Int32)) (fun v_1 => xgd (¬ (5 : Int32) = 0) (xbd (x1 / (5 : Int32)) (fun v_2 => xgd (xin v_2 6) (xbd (S.1 22 v_2.toNatClampNeg) (fun v_3 => if v_3 ≤ v_1 then (xgd ((0 : Int32) = 0 ∨ (0 : Int32) = 1) (some (S, (0 : Int32)))) else (xgd ((1 : Int32) = 0 ∨ (1 : Int32) = 1) (some (S, (1 : Int32))))))))))
def f_X12_isThereNow (S : xSt) (x1 : Int32) : Option (xSt × Int32) := f_X12_isThereNow_0 x1 S
def f_X12_goDay_58 (x1 : Int32) (S : xSt) : Option ((xSt × Int32) ⊕ (xSt × Unit)) :=
  xbd (x1 + (1 : Int32)) (fun v_1 => some (.inl (S, v_1)))
def f_X12_goDay_57 (x1 : Int32) (y1 : Int32) (y2 : Int32) (S : xSt) : Option ((xSt × Int32) ⊕ (xSt × Unit)) :=
  xgd (xin y1 30) (xbd (xsi S 28 y1.toNatClampNeg y2) (fun S_1 => f_X12_goDay_58 x1 S_1))
def f_X12_goDay_180 (x1 : Int32) (S : xSt) : Option ((xSt × Int32) ⊕ (xSt × Unit)) :=
  xbd (x1 + (1 : Int32)) (fun v_1 => some (.inl (S, v_1)))
def f_X12_goDay_150 (x1 : Int32) (S : xSt) : Option ((xSt × Int32) ⊕ (xSt × Unit)) :=
  xgd (xin x1 30) (xbd (S.1 24 x1.toNatClampNeg) (fun v_1 => if v_1 < (50 : Int32) then (f_X12_goDay_180 x1 S) else (xgd (xin x1 30) (xbd (S.1 23 x1.toNatClampNeg) (fun v_3 => if v_3 ≤ 0 then (f_X12_goDay_180 x1 S) else (xgd (xin x1 30) (xbd (S.1 23 x1.toNatClampNeg) (fun v_5 => xbd (v_5 - (1 : Int32)) (fun v_6 => xgd (xin x1 30) (xbd (xsi S 23 x1.toNatClampNeg v_6) (fun S_7 => f_X12_goDay_180 x1 S_7)))))))))))
def f_X12_goDay_149 (x1 : Int32) (y1 : Int32) (y2 : Int32) (S : xSt) : Option ((xSt × Int32) ⊕ (xSt × Unit)) :=
  xgd (xin y1 30) (xbd (xsi S 25 y1.toNatClampNeg y2) (fun S_1 => f_X12_goDay_150 x1 S_1))
def f_X12_goDay_66 (S : xSt) (x1 : Int32) : Option ((xSt × Int32) ⊕ (xSt × Unit)) :=
  if (30 : Int32) ≤ x1 then (some (.inr (S, ()))) else (xob (f_X12_isThereNow S x1) (fun S_2 v_3 => if ¬ v_3 = 0 then (xgd (xin x1 30) (xbd (S_2.1 28 x1.toNatClampNeg) (fun v_5 => xgd (xin x1 30) (xbd (xsi S_2 24 x1.toNatClampNeg v_5) (fun S_6 => xgd (xin x1 30) (xbd (S_6.1 24 x1.toNatClampNeg) (fun v_7 => if v_7 < (40 : Int32) then (f_X12_goDay_150 x1 S_6) else (xgd (xin x1 30) (xbd (S_6.1 25 x1.toNatClampNeg) (fun v_9 => xgd (xin x1 30) (xbd (S_6.1 24 x1.toNatClampNeg) (fun v_10 => xgd (¬ (20 : Int32) = 0) (xbd (v_10 / (20 : Int32)) (fun v_11 => if v_9 ≤ v_11 then (f_X12_goDay_149 x1 x1 ((0 : Int32)) S_6) else (xgd (xin x1 30) (xbd (S_6.1 25 x1.toNatClampNeg) (fun v_13 => xgd (xin x1 30) (xbd (S_6.1 24 x1.toNatClampNeg) (fun v_14 => xgd (¬ (20 : Int32) = 0) (xbd (v_14 / (20 : Int32)) (fun v_15 => xbd (v_13 - v_15) (fun v_16 => f_X12_goDay_149 x1 x1 v_16 S_6)))))))))))))))))))))) else (f_X12_goDay_180 x1 S_2)))
def f_X12_goDay_64 (S : xSt) : Option (xSt × Unit) :=
  xlp (fun q : (xSt × Int32) => f_X12_goDay_66 q.1 q.2) 5000 (S, (0 : Int32))
def f_X12_goDay_2 (S : xSt) (x1 : Int32) : Option ((xSt × Int32) ⊕ (xSt × Unit)) :=
  if (30 : Int32) ≤ x1 then (xmr (f_X12_goDay_64 S)) else (xob (f_X12_isThereNow S x1) (fun S_2 v_3 => if ¬ v_3 = 0 then (xgd (xin x1 30) (xbd (S_2.1 24 x1.toNatClampNeg) (fun v_5 => xob (f_X12_heatsBy S_2 x1) (fun S_6 v_7 => xbd (v_5 + v_7) (fun v_8 => if 0 ≤ v_8 then (if v_8 ≤ (99 : Int32) then (f_X12_goDay_57 x1 x1 v_8 S_6) else (f_X12_goDay_57 x1 x1 ((99 : Int32)) S_6)) else (f_X12_goDay_57 x1 x1 ((0 : Int32)) S_6)))))) else (f_X12_goDay_58 x1 S_2)))
def f_X12_goDay_0 (S : xSt) : Option (xSt × Unit) :=
  xlp (fun q : (xSt × Int32) => f_X12_goDay_2 q.1 q.2) 5000 (S, (0 : Int32))
def f_X12_goDay (S : xSt) : Option (xSt × Unit) := f_X12_goDay_0 S
def f_X12_goDays_2 (x1 : Int32) (S : xSt) (x2 : Int32) : Option ((xSt × Int32) ⊕ (xSt × Unit)) :=
  if x1 ≤ x2 then (some (.inr (S, ()))) else (xob (f_X12_goDay S) (fun S_2 v_3 => xbd (x2 + (1 : Int32)) (fun v_4 => some (.inl (S_2, v_4)))))
def f_X12_goDays_0 (x1 : Int32) (S : xSt) : Option (xSt × Unit) :=
  xlp (fun q : (xSt × Int32) => f_X12_goDays_2 x1 q.1 q.2) 5000 (S, (0 : Int32))
def f_X12_goDays (S : xSt) (x1 : Int32) : Option (xSt × Unit) := f_X12_goDays_0 x1 S
def f_X12_hottest_40 (x1 : Int32) (x2 : Int32) (S : xSt) : Option ((xSt × Int32 × Int32) ⊕ (xSt × Int32)) :=
  xbd (x2 + (1 : Int32)) (fun v_1 => some (.inl (S, x1, v_1)))
def f_X12_hottest_38 (x2 : Int32) (S : xSt) : Option ((xSt × Int32 × Int32) ⊕ (xSt × Int32)) :=
  f_X12_hottest_40 x2 x2 S
def f_X12_hottest_5 (S : xSt) (x1 : Int32) (x2 : Int32) : Option ((xSt × Int32 × Int32) ⊕ (xSt × Int32)) :=
  if (30 : Int32) ≤ x2 then (some (.inr (S, x1))) else (xob (f_X12_isThereNow S x2) (fun S_2 v_3 => if v_3 = 0 then (f_X12_hottest_40 x1 x2 S_2) else (if x1 < 0 then (f_X12_hottest_38 x2 S_2) else (xgd (xin x2 30) (xbd (S_2.1 24 x2.toNatClampNeg) (fun v_6 => xgd (xin x1 30) (xbd (S_2.1 24 x1.toNatClampNeg) (fun v_7 => if v_6 ≤ v_7 then (f_X12_hottest_40 x1 x2 S_2) else (f_X12_hottest_38 x2 S_2)))))))))
def f_X12_hottest_0 (S : xSt) : Option (xSt × Int32) :=
  xlp (fun q : (xSt × Int32 × Int32) => f_X12_hottest_5 q.1 q.2.1 q.2.2) 5000 (S, (-2 : Int32), (0 : Int32))
def f_X12_hottest (S : xSt) : Option (xSt × Int32) := f_X12_hottest_0 S
def f_X12_hottestHeat_0 (S : xSt) : Option (xSt × Int32) :=
  xob (f_X12_hottest S) (fun S_1 v_2 => if 0 ≤ v_2 then (xob (f_X12_hottest S_1) (fun S_4 v_5 => xgd (xin v_5 30) (xbd (S_4.1 24 v_5.toNatClampNeg) (fun v_6 => some (S_4, v_6))))) else (some (S_1, (-2 : Int32))))
def f_X12_hottestHeat (S : xSt) : Option (xSt × Int32) := f_X12_hottestHeat_0 S
def f_X12_glowMany_36 (x1 : Int32) (x2 : Int32) (S : xSt) : Option ((xSt × Int32 × Int32) ⊕ (xSt × Int32)) :=
  xbd (x2 + (1 : Int32)) (fun v_1 => some (.inl (S, x1, v_1)))
def f_X12_glowMany_4 (S : xSt) (x1 : Int32) (x2 : Int32) : Option ((xSt × Int32 × Int32) ⊕ (xSt × Int32)) :=
  if (30 : Int32) ≤ x2 then (some (.inr (S, x1))) else (xob (f_X12_isThereNow S x2) (fun S_2 v_3 => if v_3 = 0 then (f_X12_glowMany_36 x1 x2 S_2) else (xgd (xin x2 30) (xbd (S_2.1 24 x2.toNatClampNeg) (fun v_5 => xgd (xin (0 : Int32) 2) (xbd (S_2.1 8 (0 : Int32).toNatClampNeg) (fun v_6 => if v_5 < v_6 then (f_X12_glowMany_36 x1 x2 S_2) else (xbd (x1 + (1 : Int32)) (fun v_8 => f_X12_glowMany_36 v_8 x2 S_2)))))))))
def f_X12_glowMany_0 (S : xSt) : Option (xSt × Int32) :=
  xlp (fun q : (xSt × Int32 × Int32) => f_X12_glowMany_4 q.1 q.2.1 q.2.2) 5000 (S, (0 : Int32), (0 : Int32))
def f_X12_glowMany (S : xSt) : Option (xSt × Int32) := f_X12_glowMany_0 S
def f_X12_allGood_27 (x1 : Int32) (x2 : Int32) (S : xSt) : Option ((xSt × Int32 × Int32) ⊕ (xSt × Int32)) :=
  xbd (x2 + (1 : Int32)) (fun v_1 => some (.inl (S, x1, v_1)))
def f_X12_allGood_4 (S : xSt) (x1 : Int32) (x2 : Int32) : Option ((xSt × Int32 × Int32) ⊕ (xSt × Int32)) :=
  if (30 : Int32) ≤ x2 then (some (.inr (S, x1))) else (xob (f_X12_isThereNow S x2) (fun S_2 v_3 => if v_3 = 0 then (f_X12_allGood_27 x1 x2 S_2) else (xgd (xin x2 30) (xbd (S_2.1 25 x2.toNatClampNeg) (fun v_5 => xbd (x1 + v_5) (fun v_6 => f_X12_allGood_27 v_6 x2 S_2))))))
def f_X12_allGood_0 (S : xSt) : Option (xSt × Int32) :=
  xlp (fun q : (xSt × Int32 × Int32) => f_X12_allGood_4 q.1 q.2.1 q.2.2) 5000 (S, (0 : Int32), (0 : Int32))
def f_X12_allGood (S : xSt) : Option (xSt × Int32) := f_X12_allGood_0 S
def f_X12_areDays_0 (x0 : Int32) (S : xSt) : Option (xSt × Int32) :=
  xob (f_X12_in S x0 (0 : Int32) (40 : Int32)) (fun S_1 v_2 => xgd (v_2 = 0 ∨ v_2 = 1) (some (S_1, v_2)))
def f_X12_areDays (S : xSt) (x0 : Int32) : Option (xSt × Int32) := f_X12_areDays_0 x0 S
def f_X12_later_0 (x1 : Int32) (x2 : Int32) (x3 : Int32) (S : xSt) : Option (xSt × Int32) :=
  xob (f_X12_areDays S x1) (fun S_1 v_2 => if v_2 = 0 then (some (S_1, (-1 : Int32))) else (xob (f_X12_isCell S_1 x2) (fun S_4 v_5 => if v_5 = 0 then (some (S_4, (-1 : Int32))) else (xob (f_X12_in S_4 x3 (0 : Int32) (2 : Int32)) (fun S_7 v_8 => if ¬ v_8 = 0 then (xob (f_X12_layNow S_7) (fun S_10 v_11 => xob (f_X12_goDays S_10 x1) (fun S_12 v_13 => if ¬ x3 = 0 then (if ¬ x3 = (1 : Int32) then (xgd (xin x2 30) (xbd (S_12.1 25 x2.toNatClampNeg) (fun v_16 => some (S_12, v_16)))) else (xgd (xin x2 30) (xbd (S_12.1 23 x2.toNatClampNeg) (fun v_17 => some (S_12, v_17))))) else (xgd (xin x2 30) (xbd (S_12.1 24 x2.toNatClampNeg) (fun v_18 => some (S_12, v_18))))))) else (some (S_7, (-1 : Int32))))))))
def f_X12_later (S : xSt) (x1 : Int32) (x2 : Int32) (x3 : Int32) : Option (xSt × Int32) := f_X12_later_0 x1 x2 x3 S
def f_X12_stack_0 (x1 : Int32) (x2 : Int32) (S : xSt) : Option (xSt × Int32) :=
  xob (f_X12_areDays S x1) (fun S_1 v_2 => if v_2 = 0 then (some (S_1, (-1 : Int32))) else (xob (f_X12_in S_1 x2 (0 : Int32) (3 : Int32)) (fun S_4 v_5 => if ¬ v_5 = 0 then (xob (f_X12_layNow S_4) (fun S_7 v_8 => xob (f_X12_goDays S_7 x1) (fun S_9 v_10 => if x2 = (0 : Int32) then (xob (f_X12_hottest S_9) (fun S_12 v_13 => some (S_12, v_13))) else (if x2 = (1 : Int32) then (xob (f_X12_hottestHeat S_9) (fun S_15 v_16 => some (S_15, v_16))) else (if x2 = (2 : Int32) then (xob (f_X12_glowMany S_9) (fun S_18 v_19 => some (S_18, v_19))) else (xob (f_X12_allGood S_9) (fun S_20 v_21 => some (S_20, v_21)))))))) else (some (S_4, (-1 : Int32))))))
def f_X12_stack (S : xSt) (x1 : Int32) (x2 : Int32) : Option (xSt × Int32) := f_X12_stack_0 x1 x2 S
def f_X12_first_54 (x1 : Int32) (x2 : Int32) (x3 : Int32) (y0 : Int32) (S : xSt) : Option ((xSt × Int32) ⊕ (xSt × Int32)) :=
  if y0 < x2 then (xob (f_X12_goDay S) (fun S_2 v_3 => xbd (x3 + (1 : Int32)) (fun v_4 => some (.inl (S_2, v_4))))) else (some (.inr (S, x3)))
def f_X12_first_31 (x1 : Int32) (x2 : Int32) (S : xSt) (x3 : Int32) : Option ((xSt × Int32) ⊕ (xSt × Int32)) :=
  if (40 : Int32) < x3 then (some (.inr (S, (-2 : Int32)))) else (if 0 ≤ x1 then (xgd (xin x1 30) (xbd (S.1 24 x1.toNatClampNeg) (fun v_3 => f_X12_first_54 x1 x2 x3 v_3 S))) else (xob (f_X12_hottestHeat S) (fun S_4 v_5 => f_X12_first_54 x1 x2 x3 v_5 S_4)))
def f_X12_first_13 (x1 : Int32) (x2 : Int32) (S : xSt) : Option (xSt × Int32) :=
  xob (f_X12_in S x2 (0 : Int32) (99 : Int32)) (fun S_1 v_2 => if ¬ v_2 = 0 then (xob (f_X12_layNow S_1) (fun S_4 v_5 => xlp (fun q : (xSt × Int32) => f_X12_first_31 x1 x2 q.1 q.2) 5000 (S_4, (0 : Int32)))) else (some (S_1, (-1 : Int32))))
def f_X12_first_0 (x1 : Int32) (x2 : Int32) (S : xSt) : Option (xSt × Int32) :=
  if x1 = (-1 : Int32) then (f_X12_first_13 x1 x2 S) else (xob (f_X12_isCell S x1) (fun S_2 v_3 => if v_3 = 0 then (some (S_2, (-1 : Int32))) else (f_X12_first_13 x1 x2 S_2)))
def f_X12_first (S : xSt) (x1 : Int32) (x2 : Int32) : Option (xSt × Int32) := f_X12_first_0 x1 x2 S
def f_X12_reachOf_35 (x1 : Int32) (x2 : Int64) (x4 : Int32) (S : xSt) : Option ((xSt × Int64 × Int32) ⊕ (xSt × Int64)) :=
  xbd (x4 + (1 : Int32)) (fun v_1 => some (.inl (S, x2, v_1)))
def f_X12_reachOf_7 (x1 : Int32) (S : xSt) (x2 : Int64) (x4 : Int32) : Option ((xSt × Int64 × Int32) ⊕ (xSt × Int64)) :=
  if (4 : Int32) ≤ x4 then (some (.inr (S, x2))) else (xob (f_X12_beside S x1 x4) (fun S_2 v_3 => if v_3 < 0 then (f_X12_reachOf_35 x1 x2 x4 S_2) else (xob (f_X12_beside S_2 x1 x4) (fun S_5 v_6 => xbd ((1 : Int64) <<< (v_6.toInt64 &&& 63)) (fun v_7 => xbd (x2 ||| v_7) (fun v_8 => f_X12_reachOf_35 x1 v_8 x4 S_5))))))
def f_X12_reachOf_0 (x1 : Int32) (S : xSt) : Option (xSt × Int64) :=
  xbd ((1 : Int64) <<< (x1.toInt64 &&& 63)) (fun v_1 => xlp (fun q : (xSt × Int64 × Int32) => f_X12_reachOf_7 x1 q.1 q.2.1 q.2.2) 5000 (S, v_1, (0 : Int32)))
def f_X12_reachOf (S : xSt) (x1 : Int32) : Option (xSt × Int64) := f_X12_reachOf_0 x1 S
def f_X12_goRods_38 (g_X12_goRods : xSt → Int32 → Int32 → Int64 → Int64 → Option (xSt × Unit)) (x3 : Int64) (S : xSt) : Option (xSt × Unit) :=
  xbd (xsl S 0 38 x3) (fun S_1 => some (S_1, ()))
def f_X12_goRods_94 (g_X12_goRods : xSt → Int32 → Int32 → Int64 → Int64 → Option (xSt × Unit)) (x1 : Int32) (x3 : Int64) (x5 : Int64) (x7 : Int32) (S : xSt) : Option ((xSt × Int32) ⊕ (xSt × Unit)) :=
  xbd (x7 + (1 : Int32)) (fun v_1 => some (.inl (S, v_1)))
def f_X12_goRods_52 (g_X12_goRods : xSt → Int32 → Int32 → Int64 → Int64 → Option (xSt × Unit)) (x1 : Int32) (x3 : Int64) (x5 : Int64) (S : xSt) (x7 : Int32) : Option ((xSt × Int32) ⊕ (xSt × Unit)) :=
  if (30 : Int32) ≤ x7 then (some (.inr (S, ()))) else (xob (f_X12_isThereNow S x7) (fun S_2 v_3 => if v_3 = 0 then (f_X12_goRods_94 g_X12_goRods x1 x3 x5 x7 S_2) else (xbd (x1 - (1 : Int32)) (fun v_5 => xbd (x7 + (1 : Int32)) (fun v_6 => xbd ((1 : Int64) <<< (x7.toInt64 &&& 63)) (fun v_7 => xbd (x3 ||| v_7) (fun v_8 => xob (f_X12_reachOf S_2 x7) (fun S_9 v_10 => xbd (x5 ||| v_10) (fun v_11 => xob (g_X12_goRods S_9 v_5 v_6 v_8 v_11) (fun S_12 v_13 => f_X12_goRods_94 g_X12_goRods x1 x3 x5 x7 S_12))))))))))
def f_X12_goRods_44 (g_X12_goRods : xSt → Int32 → Int32 → Int64 → Int64 → Option (xSt × Unit)) (x1 : Int32) (x2 : Int32) (x3 : Int64) (x5 : Int64) (S : xSt) : Option (xSt × Unit) :=
  if ¬ x1 = 0 then (xlp (fun q : (xSt × Int32) => f_X12_goRods_52 g_X12_goRods x1 x3 x5 q.1 q.2) 5000 (S, x2)) else (some (S, ()))
def f_X12_goRods_0 (g_X12_goRods : xSt → Int32 → Int32 → Int64 → Int64 → Option (xSt × Unit)) (x1 : Int32) (x2 : Int32) (x3 : Int64) (x5 : Int64) (S : xSt) : Option (xSt × Unit) :=
  xbd (S.2 0 37) (fun v_1 => xbd (x5 ^^^ (-1 : Int64)) (fun v_2 => xbd (v_1 &&& v_2) (fun v_3 => xbd (lg_cmp v_3 (0 : Int64)) (fun v_4 => if ¬ v_4 = 0 then (f_X12_goRods_44 g_X12_goRods x1 x2 x3 x5 S) else (if ¬ x1 = 0 then (f_X12_goRods_44 g_X12_goRods x1 x2 x3 x5 S) else (xbd (S.2 0 38) (fun v_7 => xbd (lg_cmp v_7 (0 : Int64)) (fun v_8 => if v_8 < 0 then (f_X12_goRods_38 g_X12_goRods x3 S) else (xbd (S.2 0 38) (fun v_10 => xbd (lg_cmp x3 v_10) (fun v_11 => if 0 ≤ v_11 then (some (S, ())) else (f_X12_goRods_38 g_X12_goRods x3 S))))))))))))
def F_X12_goRods : Nat → (xSt → Int32 → Int32 → Int64 → Int64 → Option (xSt × Unit))
  | 0 => ((fun _ _ _ _ _ => none))
  | d + 1 => ((fun S x1 x2 x3 x5 => f_X12_goRods_0 ((F_X12_goRods d)) x1 x2 x3 x5 S))
def f_X12_goRods (d : Nat) : xSt → Int32 → Int32 → Int64 → Int64 → Option (xSt × Unit) := (F_X12_goRods d)
def f_X12_findRods_47 (x1 : Int32) (x2 : Int32) (S : xSt) : Option ((xSt × Int32) ⊕ (xSt × Int32)) :=
  xbd (x2 + (1 : Int32)) (fun v_1 => some (.inl (S, v_1)))
def f_X12_findRods_62 (S : xSt) (x2 : Int32) : Option ((xSt × Int32) ⊕ (xSt × Int32)) :=
  if (4 : Int32) < x2 then (some (.inr (S, (-2 : Int32)))) else (xob (f_X12_goRods 70 S x2 (0 : Int32) (0 : Int64) (0 : Int64)) (fun S_2 v_3 => xbd (S_2.2 0 38) (fun v_4 => xbd (lg_cmp v_4 (0 : Int64)) (fun v_5 => if v_5 < 0 then (xbd (x2 + (1 : Int32)) (fun v_7 => some (.inl (S_2, v_7)))) else (some (.inr (S_2, x2)))))))
def f_X12_findRods_53 (S : xSt) : Option (xSt × Int32) :=
  xbd (xsl S 0 38 (-1 : Int64)) (fun S_1 => xlp (fun q : (xSt × Int32) => f_X12_findRods_62 q.1 q.2) 5000 (S_1, (0 : Int32)))
def f_X12_findRods_11 (x1 : Int32) (S : xSt) (x2 : Int32) : Option ((xSt × Int32) ⊕ (xSt × Int32)) :=
  if (30 : Int32) ≤ x2 then (xmr (f_X12_findRods_53 S)) else (xob (f_X12_isThereNow S x2) (fun S_2 v_3 => if v_3 = 0 then (f_X12_findRods_47 x1 x2 S_2) else (xgd (xin x2 30) (xbd (S_2.1 24 x2.toNatClampNeg) (fun v_5 => if v_5 < x1 then (f_X12_findRods_47 x1 x2 S_2) else (xbd (S_2.2 0 37) (fun v_7 => xbd ((1 : Int64) <<< (x2.toInt64 &&& 63)) (fun v_8 => xbd (v_7 ||| v_8) (fun v_9 => xbd (xsl S_2 0 37 v_9) (fun S_10 => f_X12_findRods_47 x1 x2 S_10))))))))))
def f_X12_findRods_0 (x1 : Int32) (S : xSt) : Option (xSt × Int32) :=
  xob (f_X12_layNow S) (fun S_1 v_2 => xbd (xsl S_1 0 37 (0 : Int64)) (fun S_3 => xlp (fun q : (xSt × Int32) => f_X12_findRods_11 x1 q.1 q.2) 5000 (S_3, (0 : Int32))))
def f_X12_findRods (S : xSt) (x1 : Int32) : Option (xSt × Int32) := f_X12_findRods_0 x1 S
def f_X12_rods_0 (x1 : Int32) (S : xSt) : Option (xSt × Int32) :=
  xob (f_X12_in S x1 (0 : Int32) (99 : Int32)) (fun S_1 v_2 => if v_2 = 0 then (some (S_1, (-1 : Int32))) else (xob (f_X12_findRods S_1 x1) (fun S_4 v_5 => some (S_4, v_5))))
def f_X12_rods (S : xSt) (x1 : Int32) : Option (xSt × Int32) := f_X12_rods_0 x1 S
def f_X12_rodsAt_0 (x1 : Int32) (S : xSt) : Option (xSt × Int64) :=
  xob (f_X12_in S x1 (0 : Int32) (99 : Int32)) (fun S_1 v_2 => if ¬ v_2 = 0 then (xob (f_X12_findRods S_1 x1) (fun S_4 v_5 => if 0 ≤ v_5 then (xbd (S_4.2 0 38) (fun v_7 => some (S_4, v_7))) else (some (S_4, (-2 : Int64))))) else (some (S_1, (-9223372036854775808 : Int64))))
def f_X12_rodsAt (S : xSt) (x1 : Int32) : Option (xSt × Int64) := f_X12_rodsAt_0 x1 S
def f_X12_turnNow_45 (x1 : Int32) (x2 : Int32) (S : xSt) : Option ((xSt × Int32) ⊕ (xSt × Unit)) :=
  xbd (x2 + (1 : Int32)) (fun v_1 => some (.inl (S, v_1)))
def f_X12_turnNow_4 (x1 : Int32) (S : xSt) (x2 : Int32) : Option ((xSt × Int32) ⊕ (xSt × Unit)) :=
  xbd ((5 : Int32) * x1) (fun v_1 => xgd (xin x1 6) (xbd (S.1 22 x1.toNatClampNeg) (fun v_2 => xbd (v_1 + v_2) (fun v_3 => if v_3 ≤ x2 then (some (.inr (S, ()))) else (xgd (xin x2 30) (xbd (xsi S 24 x2.toNatClampNeg (20 : Int32)) (fun S_5 => xgd (xin x2 30) (xbd (S_5.1 23 x2.toNatClampNeg) (fun v_6 => if v_6 ≤ 0 then (f_X12_turnNow_45 x1 x2 S_5) else (xgd (xin x2 30) (xbd (S_5.1 23 x2.toNatClampNeg) (fun v_8 => xbd (v_8 - (1 : Int32)) (fun v_9 => xgd (xin x2 30) (xbd (xsi S_5 23 x2.toNatClampNeg v_9) (fun S_10 => f_X12_turnNow_45 x1 x2 S_10)))))))))))))))
def f_X12_turnNow_0 (x1 : Int32) (S : xSt) : Option (xSt × Unit) :=
  xbd ((5 : Int32) * x1) (fun v_1 => xlp (fun q : (xSt × Int32) => f_X12_turnNow_4 x1 q.1 q.2) 5000 (S, v_1))
def f_X12_turnNow (S : xSt) (x1 : Int32) : Option (xSt × Unit) := f_X12_turnNow_0 x1 S
def f_X12_hottestBy_25 (x1 : Int32) (x2 : Int32) (x3 : Int32) (S : xSt) : Option ((xSt × Int32) ⊕ (xSt × Int32)) :=
  xbd (x3 + (1 : Int32)) (fun v_1 => some (.inl (S, v_1)))
def f_X12_hottestBy_31 (x2 : Int32) (S : xSt) : Option (xSt × Int32) :=
  xob (f_X12_goDays S x2) (fun S_1 v_2 => xob (f_X12_hottestHeat S_1) (fun S_3 v_4 => some (S_3, v_4)))
def f_X12_hottestBy_6 (x1 : Int32) (x2 : Int32) (S : xSt) (x3 : Int32) : Option ((xSt × Int32) ⊕ (xSt × Int32)) :=
  if (6 : Int32) ≤ x3 then (xmr (f_X12_hottestBy_31 x2 S)) else (xob (f_X12_has S x1 x3) (fun S_2 v_3 => if v_3 = 0 then (f_X12_hottestBy_25 x1 x2 x3 S_2) else (xob (f_X12_turnNow S_2 x3) (fun S_5 v_6 => f_X12_hottestBy_25 x1 x2 x3 S_5))))
def f_X12_hottestBy_0 (x1 : Int32) (x2 : Int32) (S : xSt) : Option (xSt × Int32) :=
  xob (f_X12_layNow S) (fun S_1 v_2 => xlp (fun q : (xSt × Int32) => f_X12_hottestBy_6 x1 x2 q.1 q.2) 5000 (S_1, (0 : Int32)))
def f_X12_hottestBy (S : xSt) (x1 : Int32) (x2 : Int32) : Option (xSt × Int32) := f_X12_hottestBy_0 x1 x2 S
def f_X12_turn_100 (x1 : Int32) (x2 : Int32) (x3 : Int32) (x4 : Int32) (x5 : Int32) (x6 : Int32) (S : xSt) : Option ((xSt × Int32 × Int32 × Int32) ⊕ (xSt × Int32)) :=
  xbd (x6 + (1 : Int32)) (fun v_1 => some (.inl (S, x4, x5, v_1)))
def f_X12_turn_92 (x1 : Int32) (x2 : Int32) (x3 : Int32) (x6 : Int32) (x7 : Int32) (S : xSt) : Option ((xSt × Int32 × Int32 × Int32) ⊕ (xSt × Int32)) :=
  f_X12_turn_100 x1 x2 x3 x6 x7 x6 S
def f_X12_turn_106 (x3 : Int32) (x4 : Int32) (x5 : Int32) (S : xSt) : Option (xSt × Int32) :=
  if ¬ x3 = 0 then (some (S, x4)) else (some (S, x5))
def f_X12_turn_41 (x1 : Int32) (x2 : Int32) (x3 : Int32) (S : xSt) (x4 : Int32) (x5 : Int32) (x6 : Int32) : Option ((xSt × Int32 × Int32 × Int32) ⊕ (xSt × Int32)) :=
  if (64 : Int32) ≤ x6 then (xmr (f_X12_turn_106 x3 x4 x5 S)) else (xob (f_X12_bitsOf S x6) (fun S_2 v_3 => if v_3 = x1 then (xob (f_X12_hottestBy S_2 x6 x2) (fun S_5 v_6 => if 0 ≤ v_6 then (if x4 < 0 then (f_X12_turn_92 x1 x2 x3 x6 v_6 S_5) else (if v_6 < x5 then (f_X12_turn_92 x1 x2 x3 x6 v_6 S_5) else (f_X12_turn_100 x1 x2 x3 x4 x5 x6 S_5))) else (some (.inr (S_5, (-2 : Int32)))))) else (f_X12_turn_100 x1 x2 x3 x4 x5 x6 S_2)))
def f_X12_turn_0 (x1 : Int32) (x2 : Int32) (x3 : Int32) (S : xSt) : Option (xSt × Int32) :=
  xob (f_X12_in S x1 (0 : Int32) (3 : Int32)) (fun S_1 v_2 => if v_2 = 0 then (some (S_1, (-1 : Int32))) else (xob (f_X12_in S_1 x2 (0 : Int32) (20 : Int32)) (fun S_4 v_5 => if v_5 = 0 then (some (S_4, (-1 : Int32))) else (xob (f_X12_in S_4 x3 (0 : Int32) (1 : Int32)) (fun S_7 v_8 => if ¬ v_8 = 0 then (xlp (fun q : (xSt × Int32 × Int32 × Int32) => f_X12_turn_41 x1 x2 x3 q.1 q.2.1 q.2.2.1 q.2.2.2) 5000 (S_7, (-2 : Int32), (-2 : Int32), (0 : Int32))) else (some (S_7, (-1 : Int32))))))))
def f_X12_turn (S : xSt) (x1 : Int32) (x2 : Int32) (x3 : Int32) : Option (xSt × Int32) := f_X12_turn_0 x1 x2 x3 S
def f_X12_chimney_104 (x1 : Int32) (x2 : Int32) (x3 : Int32) (x4 : Int32) (x5 : Int32) (S : xSt) : Option ((xSt × Int32 × Int32 × Int32) ⊕ (xSt × Int32)) :=
  xbd (x5 + (1 : Int32)) (fun v_1 => some (.inl (S, x3, x4, v_1)))
def f_X12_chimney_97 (x1 : Int32) (x2 : Int32) (x5 : Int32) (x6 : Int32) (S : xSt) : Option ((xSt × Int32 × Int32 × Int32) ⊕ (xSt × Int32)) :=
  f_X12_chimney_104 x1 x2 x5 x6 x5 S
def f_X12_chimney_110 (x2 : Int32) (x3 : Int32) (x4 : Int32) (S : xSt) : Option (xSt × Int32) :=
  if ¬ x2 = 0 then (some (S, x4)) else (some (S, x3))
def f_X12_chimney_31 (x1 : Int32) (x2 : Int32) (S : xSt) (x3 : Int32) (x4 : Int32) (x5 : Int32) : Option ((xSt × Int32 × Int32 × Int32) ⊕ (xSt × Int32)) :=
  if (6 : Int32) ≤ x5 then (xmr (f_X12_chimney_110 x2 x3 x4 S)) else (xgd (xin x5 6) (xbd (S.1 7 x5.toNatClampNeg) (fun v_2 => if ¬ v_2 = (1 : Int32) then (xob (f_X12_layNow S) (fun S_4 v_5 => xgd (xin x5 6) (xbd (xsi S_4 27 x5.toNatClampNeg (1 : Int32)) (fun S_6 => xob (f_X12_goDays S_6 x1) (fun S_7 v_8 => xob (f_X12_hottestHeat S_7) (fun S_9 v_10 => if 0 ≤ v_10 then (if x3 < 0 then (f_X12_chimney_97 x1 x2 x5 v_10 S_9) else (if v_10 < x4 then (f_X12_chimney_97 x1 x2 x5 v_10 S_9) else (f_X12_chimney_104 x1 x2 x3 x4 x5 S_9))) else (some (.inr (S_9, (-2 : Int32)))))))))) else (f_X12_chimney_104 x1 x2 x3 x4 x5 S))))
def f_X12_chimney_0 (x1 : Int32) (x2 : Int32) (S : xSt) : Option (xSt × Int32) :=
  xob (f_X12_in S x1 (0 : Int32) (20 : Int32)) (fun S_1 v_2 => if v_2 = 0 then (some (S_1, (-1 : Int32))) else (xob (f_X12_in S_1 x2 (0 : Int32) (1 : Int32)) (fun S_4 v_5 => if ¬ v_5 = 0 then (xlp (fun q : (xSt × Int32 × Int32 × Int32) => f_X12_chimney_31 x1 x2 q.1 q.2.1 q.2.2.1 q.2.2.2) 5000 (S_4, (-2 : Int32), (-2 : Int32), (0 : Int32))) else (some (S_4, (-1 : Int32))))))
def f_X12_chimney (S : xSt) (x1 : Int32) (x2 : Int32) : Option (xSt × Int32) := f_X12_chimney_0 x1 x2 S
def f_X12_staysCool_54 (x1 : Int32) (x2 : Int32) (S : xSt) : Option ((xSt × Int32) ⊕ (xSt × Int32)) :=
  xob (f_X12_goDay S) (fun S_1 v_2 => xbd (x2 + (1 : Int32)) (fun v_3 => some (.inl (S_1, v_3))))
def f_X12_staysCool_45 (x1 : Int32) (x2 : Int32) (S : xSt) : Option ((xSt × Int32) ⊕ (xSt × Int32)) :=
  xob (f_X12_glowMany S) (fun S_1 v_2 => if v_2 ≤ 0 then (f_X12_staysCool_54 x1 x2 S_1) else (xgd ((0 : Int32) = 0 ∨ (0 : Int32) = 1) (some (.inr (S_1, (0 : Int32))))))
def f_X12_staysCool_28 (x1 : Int32) (x2 : Int32) (S : xSt) (x3 : Int32) : Option ((xSt × Int32) ⊕ ((xSt × Int32) ⊕ (xSt × Int32))) :=
  if (6 : Int32) ≤ x3 then (xmr (f_X12_staysCool_45 x1 x2 S)) else (xob (f_X12_turnNow S x3) (fun S_2 v_3 => xbd (x3 + (1 : Int32)) (fun v_4 => some (.inl (S_2, v_4)))))
def f_X12_staysCool_6 (x1 : Int32) (S : xSt) (x2 : Int32) : Option ((xSt × Int32) ⊕ (xSt × Int32)) :=
  if (40 : Int32) < x2 then (xgd ((1 : Int32) = 0 ∨ (1 : Int32) = 1) (some (.inr (S, (1 : Int32))))) else (xob (f_X12_glowMany S) (fun S_2 v_3 => if v_3 ≤ 0 then (if ¬ x2 = x1 then (f_X12_staysCool_54 x1 x2 S_2) else (xlp (fun q : (xSt × Int32) => f_X12_staysCool_28 x1 x2 q.1 q.2) 5000 (S_2, (0 : Int32)))) else (xgd ((0 : Int32) = 0 ∨ (0 : Int32) = 1) (some (.inr (S_2, (0 : Int32)))))))
def f_X12_staysCool_0 (x1 : Int32) (S : xSt) : Option (xSt × Int32) :=
  xob (f_X12_layNow S) (fun S_1 v_2 => xlp (fun q : (xSt × Int32) => f_X12_staysCool_6 x1 q.1 q.2) 5000 (S_1, (0 : Int32)))
def f_X12_staysCool (S : xSt) (x1 : Int32) : Option (xSt × Int32) := f_X12_staysCool_0 x1 S
def f_X12_latest_15 (S : xSt) (x1 : Int32) : Option ((xSt × Int32) ⊕ (xSt × Int32)) :=
  if x1 < 0 then (some (.inr (S, (-2 : Int32)))) else (xob (f_X12_staysCool S x1) (fun S_2 v_3 => if v_3 = 0 then (xbd (x1 + (-1 : Int32)) (fun v_5 => some (.inl (S_2, v_5)))) else (some (.inr (S_2, x1)))))
def f_X12_latest_0 (S : xSt) : Option (xSt × Int32) :=
  xob (f_X12_staysCool S (41 : Int32)) (fun S_1 v_2 => if v_2 = 0 then (xlp (fun q : (xSt × Int32) => f_X12_latest_15 q.1 q.2) 5000 (S_1, (20 : Int32))) else (some (S_1, (-2 : Int32))))
def f_X12_latest (S : xSt) : Option (xSt × Int32) := f_X12_latest_0 S
def f_X12_rowFault_0 (x1 : Int32) (S : xSt) : Option (xSt × Int32) :=
  xgd (xin x1 6) (xbd (S.1 37 x1.toNatClampNeg) (fun v_1 => if ¬ v_1 = (-1 : Int32) then (xgd (xin x1 6) (xbd (S.1 37 x1.toNatClampNeg) (fun v_3 => if ¬ v_3 = (-2 : Int32) then (some (S, (-12 : Int32))) else (some (S, (0 : Int32)))))) else (some (S, (-11 : Int32)))))
def f_X12_rowFault (S : xSt) (x1 : Int32) : Option (xSt × Int32) := f_X12_rowFault_0 x1 S
def f_X12_at_0 (x1 : Int32) (x2 : Int32) (S : xSt) : Option (xSt × Int32) :=
  xbd ((60 : Int32) * x1) (fun v_1 => xbd (v_1 + x2) (fun v_2 => xgd (xin v_2 360) (xbd (S.2 39 v_2.toNatClampNeg) (fun v_3 => xbd (v_3.toInt32) (fun v_4 => some (S, v_4))))))
def f_X12_at (S : xSt) (x1 : Int32) (x2 : Int32) : Option (xSt × Int32) := f_X12_at_0 x1 x2 S
def f_X12_goLay_57 (g_X12_goLay : xSt → Int32 → Int32 → Int32 → Int32 → Option (xSt × Unit)) (x1 : Int32) (x2 : Int32) (x3 : Int32) (x4 : Int32) (x5 : Int32) (S : xSt) : Option ((xSt × Int32) ⊕ (xSt × Unit)) :=
  xbd (x5 + (1 : Int32)) (fun v_1 => some (.inl (S, v_1)))
def f_X12_goLay_11 (g_X12_goLay : xSt → Int32 → Int32 → Int32 → Int32 → Option (xSt × Unit)) (x1 : Int32) (x2 : Int32) (x3 : Int32) (x4 : Int32) (S : xSt) (x5 : Int32) : Option ((xSt × Int32) ⊕ (xSt × Unit)) :=
  xbd (S.1 0 41) (fun v_1 => if v_1 ≤ x5 then (some (.inr (S, ()))) else (xob (f_X12_has S x4 x5) (fun S_3 v_4 => if v_4 = 0 then (xgd (xin x3 6) (xbd (xsi S_3 29 x3.toNatClampNeg x5) (fun S_6 => xbd (x3 + (1 : Int32)) (fun v_7 => xbd ((1 : Int32) <<< (x5 &&& 31)) (fun v_8 => xbd (x4 ||| v_8) (fun v_9 => xob (g_X12_goLay S_6 x1 x2 v_7 v_9) (fun S_10 v_11 => f_X12_goLay_57 g_X12_goLay x1 x2 x3 x4 x5 S_10))))))) else (f_X12_goLay_57 g_X12_goLay x1 x2 x3 x4 x5 S_3))))
def f_X12_goLay_198 (g_X12_goLay : xSt → Int32 → Int32 → Int32 → Int32 → Option (xSt × Unit)) (S : xSt) (x6 : Int32) : Option ((xSt × Int32) ⊕ (xSt × Unit)) :=
  xbd (S.1 0 41) (fun v_1 => if v_1 ≤ x6 then (some (.inr (S, ()))) else (xgd (xin x6 6) (xbd (S.1 29 x6.toNatClampNeg) (fun v_3 => xgd (xin x6 6) (xbd (xsi S 30 x6.toNatClampNeg v_3) (fun S_4 => xbd (x6 + (1 : Int32)) (fun v_5 => some (.inl (S_4, v_5)))))))))
def f_X12_goLay_189 (g_X12_goLay : xSt → Int32 → Int32 → Int32 → Int32 → Option (xSt × Unit)) (x5 : Int32) (S : xSt) : Option (xSt × Unit) :=
  xbd (xsi S 0 42 x5) (fun S_1 => xlp (fun q : (xSt × Int32) => f_X12_goLay_198 g_X12_goLay q.1 q.2) 5000 (S_1, (0 : Int32)))
def f_X12_goLay_156 (g_X12_goLay : xSt → Int32 → Int32 → Int32 → Int32 → Option (xSt × Unit)) (x2 : Int32) (S : xSt) : Option (xSt × Unit) :=
  xob (f_X12_goDays S x2) (fun S_1 v_2 => xob (f_X12_hottestHeat S_1) (fun S_3 v_4 => if v_4 < 0 then (some (S_3, ())) else (xbd (S_3.1 0 42) (fun v_6 => if v_6 < 0 then (f_X12_goLay_189 g_X12_goLay v_4 S_3) else (xbd (S_3.1 0 42) (fun v_8 => if v_4 < v_8 then (f_X12_goLay_189 g_X12_goLay v_4 S_3) else (some (S_3, ()))))))))
def f_X12_goLay_71 (g_X12_goLay : xSt → Int32 → Int32 → Int32 → Int32 → Option (xSt × Unit)) (x1 : Int32) (x2 : Int32) (S : xSt) (x5 : Int32) : Option ((xSt × Int32) ⊕ (xSt × Unit)) :=
  xbd (S.1 0 41) (fun v_1 => if v_1 ≤ x5 then (xmr (f_X12_goLay_156 g_X12_goLay x2 S)) else (xbd ((5 : Int32) * x5) (fun v_3 => xgd (xin x5 6) (xbd (S.1 22 x5.toNatClampNeg) (fun v_4 => xbd (v_3 + v_4) (fun v_5 => xgd (xin x5 6) (xbd (S.1 29 x5.toNatClampNeg) (fun v_6 => xob (f_X12_at S x1 v_6) (fun S_7 v_8 => xgd (xin v_5 30) (xbd (xsi S_7 23 v_5.toNatClampNeg v_8) (fun S_9 => xgd (xin v_5 30) (xbd (xsi S_9 24 v_5.toNatClampNeg (20 : Int32)) (fun S_10 => xgd (xin v_5 30) (xbd (xsi S_10 25 v_5.toNatClampNeg (99 : Int32)) (fun S_11 => xgd (xin v_5 30) (xbd (xsi S_11 26 v_5.toNatClampNeg (0 : Int32)) (fun S_12 => xgd (xin x5 6) (xbd (S_12.1 22 x5.toNatClampNeg) (fun v_13 => xbd (v_13 + (1 : Int32)) (fun v_14 => xgd (xin x5 6) (xbd (xsi S_12 22 x5.toNatClampNeg v_14) (fun S_15 => xbd (x5 + (1 : Int32)) (fun v_16 => some (.inl (S_15, v_16)))))))))))))))))))))))))
def f_X12_goLay_0 (g_X12_goLay : xSt → Int32 → Int32 → Int32 → Int32 → Option (xSt × Unit)) (x1 : Int32) (x2 : Int32) (x3 : Int32) (x4 : Int32) (S : xSt) : Option (xSt × Unit) :=
  xbd (S.1 0 41) (fun v_1 => if v_1 ≤ x3 then (xob (f_X12_layNow S) (fun S_3 v_4 => xlp (fun q : (xSt × Int32) => f_X12_goLay_71 g_X12_goLay x1 x2 q.1 q.2) 5000 (S_3, (0 : Int32)))) else (xlp (fun q : (xSt × Int32) => f_X12_goLay_11 g_X12_goLay x1 x2 x3 x4 q.1 q.2) 5000 (S, (0 : Int32))))
def F_X12_goLay : Nat → (xSt → Int32 → Int32 → Int32 → Int32 → Option (xSt × Unit))
  | 0 => ((fun _ _ _ _ _ => none))
  | d + 1 => ((fun S x1 x2 x3 x4 => f_X12_goLay_0 ((F_X12_goLay d)) x1 x2 x3 x4 S))
def f_X12_goLay (d : Nat) : xSt → Int32 → Int32 → Int32 → Int32 → Option (xSt × Unit) := (F_X12_goLay d)
def f_X12_lay_128 (x1 : Int32) (x2 : Int32) (x3 : Int32) (S : xSt) : Option (xSt × Int32) :=
  xbd (xsi S 0 42 (-2 : Int32)) (fun S_1 => xob (f_X12_goLay 70 S_1 x1 x2 (0 : Int32) (0 : Int32)) (fun S_2 v_3 => xbd (S_2.1 0 42) (fun v_4 => if v_4 < 0 then (some (S_2, (-2 : Int32))) else (xbd (S_2.1 0 41) (fun v_6 => if x3 < v_6 then (if 0 ≤ x3 then (xgd (xin x3 6) (xbd (S_2.1 30 x3.toNatClampNeg) (fun v_9 => some (S_2, v_9)))) else (xbd (S_2.1 0 42) (fun v_10 => some (S_2, v_10)))) else (some (S_2, (-2 : Int32))))))))
def f_X12_lay_99 (x1 : Int32) (x2 : Int32) (x3 : Int32) (S : xSt) (x4 : Int32) : Option ((xSt × Int32) ⊕ (xSt × Int32)) :=
  xbd (S.1 0 41) (fun v_1 => if v_1 ≤ x4 then (xmr (f_X12_lay_128 x1 x2 x3 S)) else (xgd (xin x4 6) (xbd (S.1 1 x4.toNatClampNeg) (fun v_3 => if ¬ v_3 = (5 : Int32) then (xbd (x4 + (1 : Int32)) (fun v_5 => some (.inl (S, v_5)))) else (some (.inr (S, (-2 : Int32))))))))
def f_X12_lay_96 (x1 : Int32) (x2 : Int32) (x3 : Int32) (S : xSt) : Option (xSt × Int32) :=
  xlp (fun q : (xSt × Int32) => f_X12_lay_99 x1 x2 x3 q.1 q.2) 5000 (S, (0 : Int32))
def f_X12_lay_43 (x1 : Int32) (x2 : Int32) (x3 : Int32) (S : xSt) : Option (xSt ⊕ (xSt × Int32)) :=
  xbd (S.1 0 41) (fun v_1 => if (6 : Int32) ≤ v_1 then (xmr (f_X12_lay_96 x1 x2 x3 S)) else (xbd (S.1 0 41) (fun v_3 => xgd (xin x1 6) (xbd (S.1 38 x1.toNatClampNeg) (fun v_4 => if v_4 ≤ v_3 then (xmr (f_X12_lay_96 x1 x2 x3 S)) else (xbd (S.1 0 41) (fun v_6 => xob (f_X12_at S x1 v_6) (fun S_7 v_8 => xob (f_X12_in S_7 v_8 (0 : Int32) (9 : Int32)) (fun S_9 v_10 => if v_10 = 0 then (xmr (f_X12_lay_96 x1 x2 x3 S_9)) else (xbd (S_9.1 0 41) (fun v_12 => xbd (v_12 + (1 : Int32)) (fun v_13 => xbd (xsi S_9 0 41 v_13) (fun S_14 => some (.inl S_14))))))))))))))
def f_X12_lay_0 (x1 : Int32) (x2 : Int32) (x3 : Int32) (S : xSt) : Option (xSt × Int32) :=
  xob (f_X12_isShelf S x1) (fun S_1 v_2 => if v_2 = 0 then (some (S_1, (-1 : Int32))) else (xob (f_X12_in S_1 x2 (0 : Int32) (8 : Int32)) (fun S_4 v_5 => if v_5 = 0 then (some (S_4, (-1 : Int32))) else (if (-1 : Int32) ≤ x3 then (xob (f_X12_rowFault S_4 x1) (fun S_8 v_9 => if 0 ≤ v_9 then (xbd (xsi S_8 0 41 (0 : Int32)) (fun S_11 => xlp (fun q : xSt => f_X12_lay_43 x1 x2 x3 q) 5000 S_11)) else (xob (f_X12_rowFault S_8 x1) (fun S_12 v_13 => some (S_12, v_13))))) else (some (S_4, (-1 : Int32)))))))
def f_X12_lay (S : xSt) (x1 : Int32) (x2 : Int32) (x3 : Int32) : Option (xSt × Int32) := f_X12_lay_0 x1 x2 x3 S
def f_X12_worthNow_45 (x1 : Int32) (x2 : Int32) (S : xSt) : Option ((xSt × Int32 × Int32) ⊕ (xSt × Int32)) :=
  xbd (x2 + (1 : Int32)) (fun v_1 => some (.inl (S, x1, v_1)))
def f_X12_worthNow_4 (S : xSt) (x1 : Int32) (x2 : Int32) : Option ((xSt × Int32 × Int32) ⊕ (xSt × Int32)) :=
  if (30 : Int32) ≤ x2 then (some (.inr (S, x1))) else (xob (f_X12_isThereNow S x2) (fun S_2 v_3 => if v_3 = 0 then (f_X12_worthNow_45 x1 x2 S_2) else (xgd (xin x2 30) (xbd (S_2.1 24 x2.toNatClampNeg) (fun v_5 => xgd (xin (0 : Int32) 2) (xbd (S_2.1 8 (0 : Int32).toNatClampNeg) (fun v_6 => if v_6 ≤ v_5 then (f_X12_worthNow_45 x1 x2 S_2) else (xgd (xin x2 30) (xbd (S_2.1 25 x2.toNatClampNeg) (fun v_8 => xgd (¬ (9 : Int32) = 0) (xbd (v_8 / (9 : Int32)) (fun v_9 => xbd (x1 + v_9) (fun v_10 => f_X12_worthNow_45 v_10 x2 S_2)))))))))))))
def f_X12_worthNow_0 (S : xSt) : Option (xSt × Int32) :=
  xlp (fun q : (xSt × Int32 × Int32) => f_X12_worthNow_4 q.1 q.2.1 q.2.2) 5000 (S, (0 : Int32), (0 : Int32))
def f_X12_worthNow (S : xSt) : Option (xSt × Int32) := f_X12_worthNow_0 S
def f_X12_worth_0 (S : xSt) : Option (xSt × Int32) :=
  xob (f_X12_layNow S) (fun S_1 v_2 => xob (f_X12_worthNow S_1) (fun S_3 v_4 => some (S_3, v_4)))
def f_X12_worth (S : xSt) : Option (xSt × Int32) := f_X12_worth_0 S
def f_X12_sell_85 (x1 : Int32) (x2 : Int32) (x3 : Int32) (x4 : Int32) (x5 : Int32) (x6 : Int32) (S : xSt) : Option ((xSt × Int32 × Int32 × Int32) ⊕ (xSt × Int32)) :=
  xbd (x6 + (1 : Int32)) (fun v_1 => some (.inl (S, x4, x5, v_1)))
def f_X12_sell_91 (x3 : Int32) (x4 : Int32) (x5 : Int32) (S : xSt) : Option (xSt × Int32) :=
  if ¬ x3 = 0 then (some (S, x5)) else (some (S, x4))
def f_X12_sell_46 (x1 : Int32) (x2 : Int32) (x3 : Int32) (S : xSt) (x4 : Int32) (x5 : Int32) (x6 : Int32) : Option ((xSt × Int32 × Int32 × Int32) ⊕ (xSt × Int32)) :=
  if x1 < x6 then (xmr (f_X12_sell_91 x3 x4 x5 S)) else (xob (f_X12_goDay S) (fun S_2 v_3 => xob (f_X12_worthNow S_2) (fun S_4 v_5 => xbd (x2 * x6) (fun v_6 => xbd (v_5 - v_6) (fun v_7 => if x5 < v_7 then (f_X12_sell_85 x1 x2 x3 x6 v_7 x6 S_4) else (f_X12_sell_85 x1 x2 x3 x4 x5 x6 S_4))))))
def f_X12_sell_0 (x1 : Int32) (x2 : Int32) (x3 : Int32) (S : xSt) : Option (xSt × Int32) :=
  xob (f_X12_areDays S x1) (fun S_1 v_2 => if v_2 = 0 then (some (S_1, (-2000000000 : Int32))) else (xob (f_X12_in S_1 x2 (0 : Int32) (99 : Int32)) (fun S_4 v_5 => if v_5 = 0 then (some (S_4, (-2000000000 : Int32))) else (xob (f_X12_in S_4 x3 (0 : Int32) (1 : Int32)) (fun S_7 v_8 => if ¬ v_8 = 0 then (xob (f_X12_layNow S_7) (fun S_10 v_11 => xob (f_X12_worthNow S_10) (fun S_12 v_13 => xlp (fun q : (xSt × Int32 × Int32 × Int32) => f_X12_sell_46 x1 x2 x3 q.1 q.2.1 q.2.2.1 q.2.2.2) 5000 (S_12, (0 : Int32), v_13, (1 : Int32))))) else (some (S_7, (-2000000000 : Int32))))))))
def f_X12_sell (S : xSt) (x1 : Int32) (x2 : Int32) (x3 : Int32) : Option (xSt × Int32) := f_X12_sell_0 x1 x2 x3 S
def f_X12_goneOf_40 (x1 : Int32) (x2 : Int32) (x3 : Int32) (S : xSt) : Option ((xSt × Int32 × Int32) ⊕ (xSt × Int32)) :=
  xbd (x3 + (1 : Int32)) (fun v_1 => some (.inl (S, x2, v_1)))
def f_X12_goneOf_4 (x1 : Int32) (S : xSt) (x2 : Int32) (x3 : Int32) : Option ((xSt × Int32 × Int32) ⊕ (xSt × Int32)) :=
  if (30 : Int32) ≤ x3 then (some (.inr (S, x2))) else (xob (f_X12_isCell S x3) (fun S_2 v_3 => if v_3 = 0 then (f_X12_goneOf_40 x1 x2 x3 S_2) else (xgd (xin x3 30) (xbd (S_2.1 6 x3.toNatClampNeg) (fun v_5 => if ¬ v_5 = x1 then (f_X12_goneOf_40 x1 x2 x3 S_2) else (xgd (xin x3 30) (xbd (S_2.1 4 x3.toNatClampNeg) (fun v_7 => xbd ((99 : Int32) - v_7) (fun v_8 => xbd (x2 + v_8) (fun v_9 => f_X12_goneOf_40 x1 v_9 x3 S_2))))))))))
def f_X12_goneOf_0 (x1 : Int32) (S : xSt) : Option (xSt × Int32) :=
  xlp (fun q : (xSt × Int32 × Int32) => f_X12_goneOf_4 x1 q.1 q.2.1 q.2.2) 5000 (S, (0 : Int32), (0 : Int32))
def f_X12_goneOf (S : xSt) (x1 : Int32) : Option (xSt × Int32) := f_X12_goneOf_0 x1 S
def f_X12_whose_33 (x1 : Int32) (x2 : Int32) (x3 : Int32) (S : xSt) : Option ((xSt × Int32 × Int32 × Int32) ⊕ (xSt × Int32)) :=
  xbd (x3 + (1 : Int32)) (fun v_1 => some (.inl (S, x1, x2, v_1)))
def f_X12_whose_7 (S : xSt) (x1 : Int32) (x2 : Int32) (x3 : Int32) : Option ((xSt × Int32 × Int32 × Int32) ⊕ (xSt × Int32)) :=
  if (10 : Int32) ≤ x3 then (some (.inr (S, x1))) else (xob (f_X12_goneOf S x3) (fun S_2 v_3 => if x2 < v_3 then (xob (f_X12_goneOf S_2 x3) (fun S_5 v_6 => f_X12_whose_33 x3 v_6 x3 S_5)) else (f_X12_whose_33 x1 x2 x3 S_2)))
def f_X12_whose_0 (S : xSt) : Option (xSt × Int32) :=
  xlp (fun q : (xSt × Int32 × Int32 × Int32) => f_X12_whose_7 q.1 q.2.1 q.2.2.1 q.2.2.2) 5000 (S, (-2 : Int32), (0 : Int32), (0 : Int32))
def f_X12_whose (S : xSt) : Option (xSt × Int32) := f_X12_whose_0 S
def f_X12_wrongDay_50 (x1 : Int32) (x2 : Int32) (x3 : Int32) (S : xSt) : Option ((xSt × Int32) ⊕ (xSt × Int32)) :=
  xob (f_X12_goDay S) (fun S_1 v_2 => xbd (x3 + (1 : Int32)) (fun v_3 => some (.inl (S_1, v_3))))
def f_X12_wrongDay_6 (x1 : Int32) (x2 : Int32) (S : xSt) (x3 : Int32) : Option ((xSt × Int32) ⊕ (xSt × Int32)) :=
  if (41 : Int32) ≤ x3 then (some (.inr (S, (-2 : Int32)))) else (xgd (xin x1 6) (xbd (S.1 38 x1.toNatClampNeg) (fun v_2 => if v_2 ≤ x3 then (some (.inr (S, (-2 : Int32)))) else (xob (f_X12_at S x1 x3) (fun S_4 v_5 => if v_5 = (100 : Int32) then (f_X12_wrongDay_50 x1 x2 x3 S_4) else (xgd (xin x2 30) (xbd (S_4.1 24 x2.toNatClampNeg) (fun v_7 => if v_5 = v_7 then (f_X12_wrongDay_50 x1 x2 x3 S_4) else (some (.inr (S_4, x3)))))))))))
def f_X12_wrongDay_0 (x1 : Int32) (x2 : Int32) (S : xSt) : Option (xSt × Int32) :=
  xob (f_X12_layNow S) (fun S_1 v_2 => xlp (fun q : (xSt × Int32) => f_X12_wrongDay_6 x1 x2 q.1 q.2) 5000 (S_1, (0 : Int32)))
def f_X12_wrongDay (S : xSt) (x1 : Int32) (x2 : Int32) : Option (xSt × Int32) := f_X12_wrongDay_0 x1 x2 S
def f_X12_judge_0 (x1 : Int32) (x2 : Int32) (S : xSt) : Option (xSt × Int32) :=
  xob (f_X12_isShelf S x1) (fun S_1 v_2 => if v_2 = 0 then (some (S_1, (-1 : Int32))) else (xob (f_X12_isCell S_1 x2) (fun S_4 v_5 => if ¬ v_5 = 0 then (xob (f_X12_rowFault S_4 x1) (fun S_7 v_8 => if 0 ≤ v_8 then (xob (f_X12_wrongDay S_7 x1 x2) (fun S_10 v_11 => some (S_10, v_11))) else (xob (f_X12_rowFault S_7 x1) (fun S_12 v_13 => some (S_12, v_13))))) else (some (S_4, (-1 : Int32))))))
def f_X12_judge (S : xSt) (x1 : Int32) (x2 : Int32) : Option (xSt × Int32) := f_X12_judge_0 x1 x2 S
def f_X12_saltedBits_46 (x1 : Int32) (x2 : Int32) (x3 : Int32) (x4 : Int32) (x5 : Int32) (x6 : Int32) (S : xSt) : Option ((xSt × Int32 × Int32) ⊕ (xSt × Int32)) :=
  xbd (x6 + (1 : Int32)) (fun v_1 => some (.inl (S, x5, v_1)))
def f_X12_saltedBits_52 (x3 : Int32) (x4 : Int32) (x5 : Int32) (S : xSt) : Option (xSt × Int32) :=
  xgd (xin x3 30) (xbd (xsi S 5 x3.toNatClampNeg x4) (fun S_1 => some (S_1, x5)))
def f_X12_saltedBits_14 (x1 : Int32) (x2 : Int32) (x3 : Int32) (x4 : Int32) (S : xSt) (x5 : Int32) (x6 : Int32) : Option ((xSt × Int32 × Int32) ⊕ (xSt × Int32)) :=
  if (2 : Int32) ≤ x6 then (xmr (f_X12_saltedBits_52 x3 x4 x5 S)) else (xgd (xin x3 30) (xbd (xsi S 5 x3.toNatClampNeg x6) (fun S_2 => xob (f_X12_wrongDay S_2 x1 x2) (fun S_3 v_4 => if 0 ≤ v_4 then (f_X12_saltedBits_46 x1 x2 x3 x4 x5 x6 S_3) else (xbd ((1 : Int32) <<< (x6 &&& 31)) (fun v_6 => xbd (x5 ||| v_6) (fun v_7 => f_X12_saltedBits_46 x1 x2 x3 x4 v_7 x6 S_3)))))))
def f_X12_saltedBits_0 (x1 : Int32) (x2 : Int32) (x3 : Int32) (S : xSt) : Option (xSt × Int32) :=
  xgd (xin x3 30) (xbd (S.1 5 x3.toNatClampNeg) (fun v_1 => xlp (fun q : (xSt × Int32 × Int32) => f_X12_saltedBits_14 x1 x2 x3 v_1 q.1 q.2.1 q.2.2) 5000 (S, (0 : Int32), (0 : Int32))))
def f_X12_saltedBits (S : xSt) (x1 : Int32) (x2 : Int32) (x3 : Int32) : Option (xSt × Int32) := f_X12_saltedBits_0 x1 x2 x3 S
def f_X12_book_143 (x1 : Int32) (x2 : Int32) (x3 : Int32) (x4 : Int32) (x5 : Int32) (x6 : Int32) (x7 : Int32) (x8 : Int32) (S : xSt) : Option ((xSt × Int32 × Int32 × Int32) ⊕ (xSt × Int32)) :=
  xbd (x8 + (1 : Int32)) (fun v_1 => some (.inl (S, x6, x7, v_1)))
def f_X12_book_140 (x1 : Int32) (x2 : Int32) (x3 : Int32) (x4 : Int32) (x5 : Int32) (x6 : Int32) (x7 : Int32) (x8 : Int32) (S : xSt) : Option ((xSt × Int32 × Int32 × Int32) ⊕ (xSt × Int32)) :=
  xbd (x6 + (1 : Int32)) (fun v_1 => f_X12_book_143 x1 x2 x3 x4 x5 v_1 x7 x8 S)
def f_X12_book_149 (x3 : Int32) (x4 : Int32) (x5 : Int32) (x6 : Int32) (x7 : Int32) (S : xSt) : Option (xSt × Int32) :=
  xgd (xin x4 30) (xbd (xsi S 2 x4.toNatClampNeg x5) (fun S_1 => if ¬ x3 = 0 then (some (S_1, x7)) else (some (S_1, x6))))
def f_X12_book_100 (x1 : Int32) (x2 : Int32) (x3 : Int32) (x4 : Int32) (x5 : Int32) (S : xSt) (x6 : Int32) (x7 : Int32) (x8 : Int32) : Option ((xSt × Int32 × Int32 × Int32) ⊕ (xSt × Int32)) :=
  if (9 : Int32) < x8 then (xmr (f_X12_book_149 x3 x4 x5 x6 x7 S)) else (xgd (xin x4 30) (xbd (xsi S 2 x4.toNatClampNeg x8) (fun S_2 => xgd (¬ (100 : Int32) = 0) (xbd (x2 / (100 : Int32)) (fun v_3 => xob (f_X12_wrongDay S_2 x1 v_3) (fun S_4 v_5 => if v_5 < 0 then (if ¬ x6 = 0 then (f_X12_book_140 x1 x2 x3 x4 x5 x6 x7 x8 S_4) else (f_X12_book_140 x1 x2 x3 x4 x5 x6 x8 x8 S_4)) else (f_X12_book_143 x1 x2 x3 x4 x5 x6 x7 x8 S_4)))))))
def f_X12_book_0 (x1 : Int32) (x2 : Int32) (x3 : Int32) (S : xSt) : Option (xSt × Int32) :=
  xob (f_X12_isShelf S x1) (fun S_1 v_2 => if v_2 = 0 then (some (S_1, (-1 : Int32))) else (if x2 < 0 then (some (S_1, (-1 : Int32))) else (xgd (¬ (100 : Int32) = 0) (xbd (x2 / (100 : Int32)) (fun v_5 => xob (f_X12_isCell S_1 v_5) (fun S_6 v_7 => if v_7 = 0 then (some (S_6, (-1 : Int32))) else (xgd (¬ (100 : Int32) = 0) (xbd (x2 - x2 / (100 : Int32) * (100 : Int32)) (fun v_9 => xob (f_X12_isCell S_6 v_9) (fun S_10 v_11 => if v_11 = 0 then (some (S_10, (-1 : Int32))) else (xob (f_X12_in S_10 x3 (0 : Int32) (2 : Int32)) (fun S_13 v_14 => if ¬ v_14 = 0 then (xob (f_X12_rowFault S_13 x1) (fun S_16 v_17 => if 0 ≤ v_17 then (xgd (¬ (100 : Int32) = 0) (xbd (x2 - x2 / (100 : Int32) * (100 : Int32)) (fun v_19 => if ¬ x3 = (2 : Int32) then (xgd (xin v_19 30) (xbd (S_16.1 2 v_19.toNatClampNeg) (fun v_21 => xlp (fun q : (xSt × Int32 × Int32 × Int32) => f_X12_book_100 x1 x2 x3 v_19 v_21 q.1 q.2.1 q.2.2.1 q.2.2.2) 5000 (S_16, (0 : Int32), (-2 : Int32), (0 : Int32))))) else (xgd (¬ (100 : Int32) = 0) (xbd (x2 / (100 : Int32)) (fun v_22 => xob (f_X12_saltedBits S_16 x1 v_22 v_19) (fun S_23 v_24 => some (S_23, v_24)))))))) else (xob (f_X12_rowFault S_16 x1) (fun S_25 v_26 => some (S_25, v_26))))) else (some (S_13, (-1 : Int32)))))))))))))))
def f_X12_book (S : xSt) (x1 : Int32) (x2 : Int32) (x3 : Int32) : Option (xSt × Int32) := f_X12_book_0 x1 x2 x3 S
def f_X12_wetNow_0 (x1 : Int32) (S : xSt) : Option (xSt × Unit) :=
  xgd (xin x1 6) (xbd (S.1 22 x1.toNatClampNeg) (fun v_1 => if ¬ v_1 = 0 then (xbd ((5 : Int32) * x1) (fun v_3 => xgd (xin x1 6) (xbd (S.1 22 x1.toNatClampNeg) (fun v_4 => xbd (v_3 + v_4) (fun v_5 => xbd (v_5 - (1 : Int32)) (fun v_6 => xgd (xin v_6 30) (xbd (S.1 23 v_6.toNatClampNeg) (fun v_7 => if v_7 ≤ (7 : Int32) then (xgd (xin v_6 30) (xbd (S.1 23 v_6.toNatClampNeg) (fun v_9 => xbd (v_9 + (2 : Int32)) (fun v_10 => xgd (xin v_6 30) (xbd (xsi S 23 v_6.toNatClampNeg v_10) (fun S_11 => some (S_11, ()))))))) else (xgd (xin v_6 30) (xbd (xsi S 23 v_6.toNatClampNeg (9 : Int32)) (fun S_12 => some (S_12, ())))))))))))) else (some (S, ()))))
def f_X12_wetNow (S : xSt) (x1 : Int32) : Option (xSt × Unit) := f_X12_wetNow_0 x1 S
def f_X12_endsHot_57 (x1 : Int32) (S : xSt) : Option ((xSt × Int32) ⊕ (xSt × Int32)) :=
  xbd (x1 + (1 : Int32)) (fun v_1 => some (.inl (S, v_1)))
def f_X12_endsHot_63 (S : xSt) : Option (xSt × Int32) :=
  xbd (S.1 0 45) (fun v_1 => xob (f_X12_goDays S v_1) (fun S_2 v_3 => xob (f_X12_hottestHeat S_2) (fun S_4 v_5 => some (S_4, v_5))))
def f_X12_endsHot_6 (S : xSt) (x1 : Int32) : Option ((xSt × Int32) ⊕ (xSt × Int32)) :=
  xbd (S.1 0 44) (fun v_1 => if v_1 ≤ x1 then (xmr (f_X12_endsHot_63 S)) else (xgd (xin x1 3) (xbd (S.1 31 x1.toNatClampNeg) (fun v_3 => if ¬ v_3 = (6 : Int32) then (xgd (¬ (2 : Int32) = 0) (xbd (x1 - x1 / (2 : Int32) * (2 : Int32)) (fun v_5 => if ¬ v_5 = 0 then (xgd (xin x1 3) (xbd (S.1 31 x1.toNatClampNeg) (fun v_7 => xob (f_X12_wetNow S v_7) (fun S_8 v_9 => f_X12_endsHot_57 x1 S_8)))) else (xgd (xin x1 3) (xbd (S.1 31 x1.toNatClampNeg) (fun v_10 => xob (f_X12_turnNow S v_10) (fun S_11 v_12 => f_X12_endsHot_57 x1 S_11))))))) else (f_X12_endsHot_57 x1 S)))))
def f_X12_endsHot_0 (S : xSt) : Option (xSt × Int32) :=
  xob (f_X12_layNow S) (fun S_1 v_2 => xlp (fun q : (xSt × Int32) => f_X12_endsHot_6 q.1 q.2) 5000 (S_1, (0 : Int32)))
def f_X12_endsHot (S : xSt) : Option (xSt × Int32) := f_X12_endsHot_0 S
def f_X12_bestOf_61 (g_X12_bestOf : xSt → Int32 → Option (xSt × Int32)) (g_X12_byDeed : xSt → Int32 → Int32 → Option (xSt × Int32)) (x1 : Int32) (x2 : Int32) (x3 : Int32) (S : xSt) : Option ((xSt × Int32 × Int32) ⊕ (xSt × Int32)) :=
  xbd (x3 + (1 : Int32)) (fun v_1 => some (.inl (S, x2, v_1)))
def f_X12_bestOf_58 (g_X12_bestOf : xSt → Int32 → Option (xSt × Int32)) (g_X12_byDeed : xSt → Int32 → Int32 → Option (xSt × Int32)) (x1 : Int32) (x3 : Int32) (x4 : Int32) (S : xSt) : Option ((xSt × Int32 × Int32) ⊕ (xSt × Int32)) :=
  f_X12_bestOf_61 g_X12_bestOf g_X12_byDeed x1 x4 x3 S
def f_X12_bestOf_23 (g_X12_bestOf : xSt → Int32 → Option (xSt × Int32)) (g_X12_byDeed : xSt → Int32 → Int32 → Option (xSt × Int32)) (x1 : Int32) (S : xSt) (x2 : Int32) (x3 : Int32) : Option ((xSt × Int32 × Int32) ⊕ (xSt × Int32)) :=
  if (6 : Int32) ≤ x3 then (some (.inr (S, x2))) else (xob (g_X12_byDeed S x1 x3) (fun S_2 v_3 => xgd (¬ (2 : Int32) = 0) (xbd (x1 - x1 / (2 : Int32) * (2 : Int32)) (fun v_4 => if ¬ v_4 = 0 then (if v_3 ≤ x2 then (f_X12_bestOf_61 g_X12_bestOf g_X12_byDeed x1 x2 x3 S_2) else (f_X12_bestOf_58 g_X12_bestOf g_X12_byDeed x1 x3 v_3 S_2)) else (if x2 ≤ v_3 then (f_X12_bestOf_61 g_X12_bestOf g_X12_byDeed x1 x2 x3 S_2) else (f_X12_bestOf_58 g_X12_bestOf g_X12_byDeed x1 x3 v_3 S_2))))))
def f_X12_bestOf_0 (g_X12_bestOf : xSt → Int32 → Option (xSt × Int32)) (g_X12_byDeed : xSt → Int32 → Int32 → Option (xSt × Int32)) (x1 : Int32) (S : xSt) : Option (xSt × Int32) :=
  xbd (S.1 0 44) (fun v_1 => if ¬ x1 = v_1 then (xob (g_X12_byDeed S x1 (6 : Int32)) (fun S_3 v_4 => xlp (fun q : (xSt × Int32 × Int32) => f_X12_bestOf_23 g_X12_bestOf g_X12_byDeed x1 q.1 q.2.1 q.2.2) 5000 (S_3, v_4, (0 : Int32)))) else (xob (f_X12_endsHot S) (fun S_5 v_6 => some (S_5, v_6))))
def f_X12_byDeed_0 (g_X12_bestOf : xSt → Int32 → Option (xSt × Int32)) (g_X12_byDeed : xSt → Int32 → Int32 → Option (xSt × Int32)) (x1 : Int32) (x2 : Int32) (S : xSt) : Option (xSt × Int32) :=
  xgd (xin x1 3) (xbd (xsi S 31 x1.toNatClampNeg x2) (fun S_1 => xbd (x1 + (1 : Int32)) (fun v_2 => xob (g_X12_bestOf S_1 v_2) (fun S_3 v_4 => some (S_3, v_4)))))
def F_X12_bestOf : Nat → (xSt → Int32 → Option (xSt × Int32)) × (xSt → Int32 → Int32 → Option (xSt × Int32))
  | 0 => ((fun _ _ => none), (fun _ _ _ => none))
  | d + 1 => ((fun S x1 => f_X12_bestOf_0 ((F_X12_bestOf d).1) ((F_X12_bestOf d).2) x1 S), (fun S x1 x2 => f_X12_byDeed_0 ((F_X12_bestOf d).1) ((F_X12_bestOf d).2) x1 x2 S))
def f_X12_bestOf (d : Nat) : xSt → Int32 → Option (xSt × Int32) := (F_X12_bestOf d).1
def f_X12_byDeed (d : Nat) : xSt → Int32 → Int32 → Option (xSt × Int32) := (F_X12_bestOf d).2
def f_X12_byTurns_85 (x3 : Int32) (S : xSt) (x4 : Int32) : Option ((xSt × Int32) ⊕ (xSt × Int32)) :=
  xob (f_X12_byDeed 70 S (0 : Int32) x4) (fun S_1 v_2 => if v_2 = x3 then (some (.inr (S_1, x4))) else (xbd (x4 + (1 : Int32)) (fun v_4 => some (.inl (S_1, v_4)))))
def f_X12_byTurns_0 (x1 : Int32) (x2 : Int32) (S : xSt) : Option (xSt × Int32) :=
  xgd (¬ (10 : Int32) = 0) (xbd (x1 / (10 : Int32)) (fun v_1 => xob (f_X12_in S v_1 (1 : Int32) (3 : Int32)) (fun S_2 v_3 => if v_3 = 0 then (some (S_2, (-1 : Int32))) else (xgd (¬ (10 : Int32) = 0) (xbd (x1 - x1 / (10 : Int32) * (10 : Int32)) (fun v_5 => xob (f_X12_in S_2 v_5 (0 : Int32) (9 : Int32)) (fun S_6 v_7 => if v_7 = 0 then (some (S_6, (-1 : Int32))) else (xob (f_X12_in S_6 x2 (0 : Int32) (1 : Int32)) (fun S_9 v_10 => if ¬ v_10 = 0 then (xgd (¬ (10 : Int32) = 0) (xbd (x1 / (10 : Int32)) (fun v_12 => xbd (xsi S_9 0 44 v_12) (fun S_13 => xgd (¬ (10 : Int32) = 0) (xbd (x1 - x1 / (10 : Int32) * (10 : Int32)) (fun v_14 => xbd (xsi S_13 0 45 v_14) (fun S_15 => xob (f_X12_bestOf 70 S_15 (0 : Int32)) (fun S_16 v_17 => if x2 = 0 then (some (S_16, v_17)) else (if 0 ≤ v_17 then (xob (f_X12_byDeed 70 S_16 (0 : Int32) (6 : Int32)) (fun S_20 v_21 => if ¬ v_21 = v_17 then (xlp (fun q : (xSt × Int32) => f_X12_byTurns_85 v_17 q.1 q.2) 5000 (S_20, (0 : Int32))) else (some (S_20, (6 : Int32))))) else (some (S_16, v_17))))))))))) else (some (S_9, (-1 : Int32))))))))))))
def f_X12_byTurns (S : xSt) (x1 : Int32) (x2 : Int32) : Option (xSt × Int32) := f_X12_byTurns_0 x1 x2 S
def f_X12_drawn_130 (x2 : Int32) (x3 : Int32) (x4 : Int32) (x5 : Int32) (x6 : Int32) (x7 : Int32) (x8 : Int32) (S : xSt) : Option ((xSt × Int32 × Int32) ⊕ ((xSt × Int32 × Int32 × Int32) ⊕ (xSt × Int32))) :=
  xob (f_X12_goDay S) (fun S_1 v_2 => xbd (x8 + (1 : Int32)) (fun v_3 => some (.inl (S_1, x5, v_3))))
def f_X12_drawn_166 (x2 : Int32) (x3 : Int32) (x4 : Int32) (x5 : Int32) (x7 : Int32) (y0 : Int32) (y1 : Int32) (S : xSt) : Option ((xSt × Int32 × Int32 × Int32) ⊕ (xSt × Int32)) :=
  xbd (y0 + y1) (fun v_1 => xbd (x7 + (1 : Int32)) (fun v_2 => some (.inl (S, x5, v_1, v_2))))
def f_X12_drawn_140 (x2 : Int32) (x3 : Int32) (x4 : Int32) (x5 : Int32) (x6 : Int32) (x7 : Int32) (S : xSt) : Option ((xSt × Int32 × Int32 × Int32) ⊕ (xSt × Int32)) :=
  if ¬ x3 = (1 : Int32) then (xob (f_X12_glowMany S) (fun S_2 v_3 => if v_3 ≤ 0 then (f_X12_drawn_166 x2 x3 x4 x5 x7 x6 ((0 : Int32)) S_2) else (f_X12_drawn_166 x2 x3 x4 x5 x7 x6 ((1 : Int32)) S_2))) else (xob (f_X12_allGood S) (fun S_5 v_6 => f_X12_drawn_166 x2 x3 x4 x5 x7 x6 v_6 S_5))
def f_X12_drawn_84 (x2 : Int32) (x3 : Int32) (x4 : Int32) (x6 : Int32) (x7 : Int32) (S : xSt) (x5 : Int32) (x8 : Int32) : Option ((xSt × Int32 × Int32) ⊕ ((xSt × Int32 × Int32 × Int32) ⊕ (xSt × Int32))) :=
  if x4 ≤ x8 then (xmr (f_X12_drawn_140 x2 x3 x4 x5 x6 x7 S)) else (xbd (x5 * (1103515245 : Int32)) (fun v_2 => xbd (v_2 + (12345 : Int32)) (fun v_3 => xbd ((v_3.toUInt32 >>> ((16 : Int32).toUInt32 &&& Int32.toUInt32 31)).toInt32) (fun v_4 => xgd (¬ (12 : Int32) = 0) (xbd (v_4 - v_4 / (12 : Int32) * (12 : Int32)) (fun v_5 => xgd (¬ (100 : Int32) = 0) (xbd (x2 - x2 / (100 : Int32) * (100 : Int32)) (fun v_6 => if v_6 ≤ v_5 then (f_X12_drawn_130 x2 x3 x4 v_3 x6 x7 x8 S) else (xbd ((v_3.toUInt32 >>> ((8 : Int32).toUInt32 &&& Int32.toUInt32 31)).toInt32) (fun v_8 => xgd (¬ (6 : Int32) = 0) (xbd (v_8 - v_8 / (6 : Int32) * (6 : Int32)) (fun v_9 => xob (f_X12_wetNow S v_9) (fun S_10 v_11 => f_X12_drawn_130 x2 x3 x4 v_3 x6 x7 x8 S_10)))))))))))))
def f_X12_drawn_67 (x2 : Int32) (x3 : Int32) (x4 : Int32) (S : xSt) (x5 : Int32) (x6 : Int32) (x7 : Int32) : Option ((xSt × Int32 × Int32 × Int32) ⊕ (xSt × Int32)) :=
  xgd (¬ (10000 : Int32) = 0) (xbd (x2 / (10000 : Int32)) (fun v_1 => if v_1 ≤ x7 then (some (.inr (S, x6))) else (xob (f_X12_layNow S) (fun S_3 v_4 => xlp (fun q : (xSt × Int32 × Int32) => f_X12_drawn_84 x2 x3 x4 x6 x7 q.1 q.2.1 q.2.2) 5000 (S_3, x5, (0 : Int32))))))
def f_X12_drawn_0 (x1 : Int32) (x2 : Int32) (x3 : Int32) (S : xSt) : Option (xSt × Int32) :=
  xgd (¬ (100 : Int32) = 0) (xbd (x2 / (100 : Int32)) (fun v_1 => xgd (¬ (100 : Int32) = 0) (xbd (v_1 - v_1 / (100 : Int32) * (100 : Int32)) (fun v_2 => if x2 < 0 then (some (S, (-1 : Int32))) else (xgd (¬ (10000 : Int32) = 0) (xbd (x2 / (10000 : Int32)) (fun v_4 => xob (f_X12_in S v_4 (1 : Int32) (30 : Int32)) (fun S_5 v_6 => if v_6 = 0 then (some (S_5, (-1 : Int32))) else (xob (f_X12_in S_5 v_2 (1 : Int32) (30 : Int32)) (fun S_8 v_9 => if v_9 = 0 then (some (S_8, (-1 : Int32))) else (xgd (¬ (100 : Int32) = 0) (xbd (x2 - x2 / (100 : Int32) * (100 : Int32)) (fun v_11 => if (12 : Int32) < v_11 then (some (S_8, (-1 : Int32))) else (xob (f_X12_in S_8 x3 (0 : Int32) (1 : Int32)) (fun S_13 v_14 => if ¬ v_14 = 0 then (xlp (fun q : (xSt × Int32 × Int32 × Int32) => f_X12_drawn_67 x2 x3 v_2 q.1 q.2.1 q.2.2.1 q.2.2.2) 5000 (S_13, x1, (0 : Int32), (0 : Int32))) else (some (S_13, (-1 : Int32))))))))))))))))))
def f_X12_drawn (S : xSt) (x1 : Int32) (x2 : Int32) (x3 : Int32) : Option (xSt × Int32) := f_X12_drawn_0 x1 x2 x3 S
def f_X12_layBack_2 (S : xSt) (x1 : Int32) : Option ((xSt × Int32) ⊕ (xSt × Unit)) :=
  if (30 : Int32) ≤ x1 then (some (.inr (S, ()))) else (xgd (xin x1 30) (xbd (S.1 23 x1.toNatClampNeg) (fun v_2 => xgd (xin x1 30) (xbd (xsi S 2 x1.toNatClampNeg v_2) (fun S_3 => xgd (xin x1 30) (xbd (S_3.1 24 x1.toNatClampNeg) (fun v_4 => xgd (xin x1 30) (xbd (xsi S_3 3 x1.toNatClampNeg v_4) (fun S_5 => xgd (xin x1 30) (xbd (S_5.1 25 x1.toNatClampNeg) (fun v_6 => xgd (xin x1 30) (xbd (xsi S_5 4 x1.toNatClampNeg v_6) (fun S_7 => xbd (x1 + (1 : Int32)) (fun v_8 => some (.inl (S_7, v_8))))))))))))))))
def f_X12_layBack_0 (S : xSt) : Option (xSt × Unit) :=
  xlp (fun q : (xSt × Int32) => f_X12_layBack_2 q.1 q.2) 5000 (S, (0 : Int32))
def f_X12_layBack (S : xSt) : Option (xSt × Unit) := f_X12_layBack_0 S
def f_X12_turned_0 (x1 : Int32) (S : xSt) : Option (xSt × Int32) :=
  xob (f_X12_isColumn S x1) (fun S_1 v_2 => if ¬ v_2 = 0 then (xob (f_X12_layNow S_1) (fun S_4 v_5 => xob (f_X12_turnNow S_4 x1) (fun S_6 v_7 => xob (f_X12_layBack S_6) (fun S_8 v_9 => xgd (xin (1 : Int32) 5) (xbd (S_8.1 9 (1 : Int32).toNatClampNeg) (fun v_10 => xbd (v_10 + (1 : Int32)) (fun v_11 => xgd (xin (1 : Int32) 5) (xbd (xsi S_8 9 (1 : Int32).toNatClampNeg v_11) (fun S_12 => xgd (xin x1 6) (xbd (S_12.1 1 x1.toNatClampNeg) (fun v_13 => some (S_12, v_13)))))))))))) else (some (S_1, (-1 : Int32))))
def f_X12_turned (S : xSt) (x1 : Int32) : Option (xSt × Int32) := f_X12_turned_0 x1 S
def f_X12_salt_40 (x1 : Int32) (S : xSt) : Option (xSt × Int32) :=
  xgd (xin (2 : Int32) 5) (xbd (S.1 9 (2 : Int32).toNatClampNeg) (fun v_1 => xbd (v_1 + (1 : Int32)) (fun v_2 => xgd (xin (2 : Int32) 5) (xbd (xsi S 9 (2 : Int32).toNatClampNeg v_2) (fun S_3 => xgd (xin x1 6) (xbd (S_3.1 1 x1.toNatClampNeg) (fun v_4 => some (S_3, v_4))))))))
def f_X12_salt_13 (x1 : Int32) (S : xSt) (x2 : Int32) : Option ((xSt × Int32) ⊕ (xSt × Int32)) :=
  xbd ((5 : Int32) * x1) (fun v_1 => xgd (xin x1 6) (xbd (S.1 1 x1.toNatClampNeg) (fun v_2 => xbd (v_1 + v_2) (fun v_3 => if v_3 ≤ x2 then (xmr (f_X12_salt_40 x1 S)) else (xgd (xin x2 30) (xbd (xsi S 5 x2.toNatClampNeg (1 : Int32)) (fun S_5 => xbd (x2 + (1 : Int32)) (fun v_6 => some (.inl (S_5, v_6))))))))))
def f_X12_salt_0 (x1 : Int32) (S : xSt) : Option (xSt × Int32) :=
  xob (f_X12_isColumn S x1) (fun S_1 v_2 => if ¬ v_2 = 0 then (xbd ((5 : Int32) * x1) (fun v_4 => xlp (fun q : (xSt × Int32) => f_X12_salt_13 x1 q.1 q.2) 5000 (S_1, v_4))) else (some (S_1, (-1 : Int32))))
def f_X12_salt (S : xSt) (x1 : Int32) : Option (xSt × Int32) := f_X12_salt_0 x1 S
def f_X12_read_43 (x1 : Int32) (S : xSt) : Option (xSt × Int32) :=
  xgd (xin x1 30) (xbd (S.1 3 x1.toNatClampNeg) (fun v_1 => some (S, v_1)))
def f_X12_read_0 (x1 : Int32) (S : xSt) : Option (xSt × Int32) :=
  xob (f_X12_isCell S x1) (fun S_1 v_2 => if ¬ v_2 = 0 then (xgd (xin (3 : Int32) 5) (xbd (S_1.1 9 (3 : Int32).toNatClampNeg) (fun v_4 => xbd (v_4 + (1 : Int32)) (fun v_5 => xgd (xin (3 : Int32) 5) (xbd (xsi S_1 9 (3 : Int32).toNatClampNeg v_5) (fun S_6 => xgd (xin x1 30) (xbd (S_6.1 3 x1.toNatClampNeg) (fun v_7 => xbd (S_6.1 0 46) (fun v_8 => if v_7 ≤ v_8 then (f_X12_read_43 x1 S_6) else (xgd (xin x1 30) (xbd (S_6.1 3 x1.toNatClampNeg) (fun v_10 => xbd (xsi S_6 0 46 v_10) (fun S_11 => f_X12_read_43 x1 S_11))))))))))))) else (some (S_1, (-1 : Int32))))
def f_X12_read (S : xSt) (x1 : Int32) : Option (xSt × Int32) := f_X12_read_0 x1 S
def f_X12_day_33 (S : xSt) : Option (xSt × Int32) :=
  xgd (xin (4 : Int32) 5) (xbd (S.1 9 (4 : Int32).toNatClampNeg) (fun v_1 => xbd (v_1 + (1 : Int32)) (fun v_2 => xgd (xin (4 : Int32) 5) (xbd (xsi S 9 (4 : Int32).toNatClampNeg v_2) (fun S_3 => xob (f_X12_glowMany S_3) (fun S_4 v_5 => some (S_4, v_5)))))))
def f_X12_day_0 (S : xSt) : Option (xSt × Int32) :=
  xob (f_X12_layNow S) (fun S_1 v_2 => xob (f_X12_goDay S_1) (fun S_3 v_4 => xob (f_X12_layBack S_3) (fun S_5 v_6 => xgd (xin (1 : Int32) 2) (xbd (S_5.1 8 (1 : Int32).toNatClampNeg) (fun v_7 => if (99 : Int32) ≤ v_7 then (f_X12_day_33 S_5) else (xgd (xin (1 : Int32) 2) (xbd (S_5.1 8 (1 : Int32).toNatClampNeg) (fun v_9 => xbd (v_9 + (1 : Int32)) (fun v_10 => xgd (xin (1 : Int32) 2) (xbd (xsi S_5 8 (1 : Int32).toNatClampNeg v_10) (fun S_11 => f_X12_day_33 S_11)))))))))))
def f_X12_day (S : xSt) : Option (xSt × Int32) := f_X12_day_0 S
def f_X12_led_0 (x1 : Int32) (S : xSt) : Option (xSt × Int32) :=
  if ¬ x1 = (5 : Int32) then (xob (f_X12_in S x1 (0 : Int32) (4 : Int32)) (fun S_2 v_3 => if v_3 = 0 then (some (S_2, (-1 : Int32))) else (xgd (xin x1 5) (xbd (S_2.1 9 x1.toNatClampNeg) (fun v_5 => some (S_2, v_5)))))) else (xbd (S.1 0 46) (fun v_6 => some (S, v_6)))
def f_X12_led (S : xSt) (x1 : Int32) : Option (xSt × Int32) := f_X12_led_0 x1 S
def f_X12_image_86 (x1 : Int32) (S : xSt) : Option ((xSt × Int32) ⊕ (xSt × Int32)) :=
  xbd (x1 + (1 : Int32)) (fun v_1 => some (.inl (S, v_1)))
def f_X12_image_59 (x1 : Int32) (S : xSt) (x2 : Int32) : Option ((xSt × Int32) ⊕ ((xSt × Int32) ⊕ (xSt × Int32))) :=
  if (5 : Int32) ≤ x2 then (xmr (f_X12_image_86 x1 S)) else (xbd ((5 : Int32) * x1) (fun v_2 => xbd (v_2 + x2) (fun v_3 => xob (f_X12_valueAt S x2 x1) (fun S_4 v_5 => xgd (xin v_3 150) (xbd (xsi S_4 33 v_3.toNatClampNeg v_5) (fun S_6 => xbd (x2 + (1 : Int32)) (fun v_7 => some (.inl (S_6, v_7)))))))))
def f_X12_image_117 (S : xSt) : Option (xSt × Int32) :=
  xgd (xin (4 : Int32) 5) (xbd (S.1 9 (4 : Int32).toNatClampNeg) (fun v_1 => some (S, v_1)))
def f_X12_image_94 (S : xSt) (x1 : Int32) : Option ((xSt × Int32) ⊕ (xSt × Int32)) :=
  if (5 : Int32) ≤ x1 then (xmr (f_X12_image_117 S)) else (xgd (xin x1 5) (xbd (S.1 9 x1.toNatClampNeg) (fun v_2 => xgd (xin x1 5) (xbd (xsi S 34 x1.toNatClampNeg v_2) (fun S_3 => xbd (x1 + (1 : Int32)) (fun v_4 => some (.inl (S_3, v_4))))))))
def f_X12_image_92 (S : xSt) : Option (xSt × Int32) :=
  xlp (fun q : (xSt × Int32) => f_X12_image_94 q.1 q.2) 5000 (S, (0 : Int32))
def f_X12_image_51 (S : xSt) (x1 : Int32) : Option ((xSt × Int32) ⊕ (xSt × Int32)) :=
  if (30 : Int32) ≤ x1 then (xmr (f_X12_image_92 S)) else (xlp (fun q : (xSt × Int32) => f_X12_image_59 x1 q.1 q.2) 5000 (S, (0 : Int32)))
def f_X12_image_49 (S : xSt) : Option (xSt × Int32) :=
  xlp (fun q : (xSt × Int32) => f_X12_image_51 q.1 q.2) 5000 (S, (0 : Int32))
def f_X12_image_25 (S : xSt) (x1 : Int32) : Option ((xSt × Int32) ⊕ (xSt × Int32)) :=
  if (6 : Int32) ≤ x1 then (xmr (f_X12_image_49 S)) else (xgd (xin x1 6) (xbd (S.1 1 x1.toNatClampNeg) (fun v_2 => xgd (xin x1 6) (xbd (xsi S 32 x1.toNatClampNeg v_2) (fun S_3 => xbd (x1 + (1 : Int32)) (fun v_4 => some (.inl (S_3, v_4))))))))
def f_X12_image_0 (S : xSt) : Option (xSt × Int32) :=
  xbd (xsi S 0 47 (1 : Int32)) (fun S_1 => xgd (xin (1 : Int32) 2) (xbd (S_1.1 8 (1 : Int32).toNatClampNeg) (fun v_2 => xbd (xsi S_1 0 48 v_2) (fun S_3 => xbd (S_3.1 0 46) (fun v_4 => xbd (xsi S_3 0 49 v_4) (fun S_5 => xlp (fun q : (xSt × Int32) => f_X12_image_25 q.1 q.2) 5000 (S_5, (0 : Int32))))))))
def f_X12_image (S : xSt) : Option (xSt × Int32) := f_X12_image_0 S
def f_X12_back_91 (x1 : Int32) (S : xSt) : Option ((xSt × Int32) ⊕ (xSt × Int32)) :=
  xbd (x1 + (1 : Int32)) (fun v_1 => some (.inl (S, v_1)))
def f_X12_back_64 (x1 : Int32) (S : xSt) (x2 : Int32) : Option ((xSt × Int32) ⊕ ((xSt × Int32) ⊕ (xSt × Int32))) :=
  if (5 : Int32) ≤ x2 then (xmr (f_X12_back_91 x1 S)) else (xbd ((5 : Int32) * x1) (fun v_2 => xbd (v_2 + x2) (fun v_3 => xgd (xin v_3 150) (xbd (S.1 33 v_3.toNatClampNeg) (fun v_4 => xob (f_X12_lays S x2 x1 v_4) (fun S_5 v_6 => xbd (x2 + (1 : Int32)) (fun v_7 => some (.inl (S_5, v_7)))))))))
def f_X12_back_122 (S : xSt) : Option (xSt × Int32) :=
  xgd (xin (4 : Int32) 5) (xbd (S.1 9 (4 : Int32).toNatClampNeg) (fun v_1 => some (S, v_1)))
def f_X12_back_99 (S : xSt) (x1 : Int32) : Option ((xSt × Int32) ⊕ (xSt × Int32)) :=
  if (5 : Int32) ≤ x1 then (xmr (f_X12_back_122 S)) else (xgd (xin x1 5) (xbd (S.1 34 x1.toNatClampNeg) (fun v_2 => xgd (xin x1 5) (xbd (xsi S 9 x1.toNatClampNeg v_2) (fun S_3 => xbd (x1 + (1 : Int32)) (fun v_4 => some (.inl (S_3, v_4))))))))
def f_X12_back_97 (S : xSt) : Option (xSt × Int32) :=
  xlp (fun q : (xSt × Int32) => f_X12_back_99 q.1 q.2) 5000 (S, (0 : Int32))
def f_X12_back_56 (S : xSt) (x1 : Int32) : Option ((xSt × Int32) ⊕ (xSt × Int32)) :=
  if (30 : Int32) ≤ x1 then (xmr (f_X12_back_97 S)) else (xlp (fun q : (xSt × Int32) => f_X12_back_64 x1 q.1 q.2) 5000 (S, (0 : Int32)))
def f_X12_back_54 (S : xSt) : Option (xSt × Int32) :=
  xlp (fun q : (xSt × Int32) => f_X12_back_56 q.1 q.2) 5000 (S, (0 : Int32))
def f_X12_back_30 (S : xSt) (x1 : Int32) : Option ((xSt × Int32) ⊕ (xSt × Int32)) :=
  if (6 : Int32) ≤ x1 then (xmr (f_X12_back_54 S)) else (xgd (xin x1 6) (xbd (S.1 32 x1.toNatClampNeg) (fun v_2 => xgd (xin x1 6) (xbd (xsi S 1 x1.toNatClampNeg v_2) (fun S_3 => xbd (x1 + (1 : Int32)) (fun v_4 => some (.inl (S_3, v_4))))))))
def f_X12_back_0 (S : xSt) : Option (xSt × Int32) :=
  xbd (S.1 0 47) (fun v_1 => if ¬ v_1 = 0 then (xbd (S.1 0 48) (fun v_3 => xgd (xin (1 : Int32) 2) (xbd (xsi S 8 (1 : Int32).toNatClampNeg v_3) (fun S_4 => xbd (S_4.1 0 49) (fun v_5 => xbd (xsi S_4 0 46 v_5) (fun S_6 => xlp (fun q : (xSt × Int32) => f_X12_back_30 q.1 q.2) 5000 (S_6, (0 : Int32)))))))) else (some (S, (-5 : Int32))))
def f_X12_back (S : xSt) : Option (xSt × Int32) := f_X12_back_0 S
def f_X12_isBody_0 (x1 : Int32) (S : xSt) : Option (xSt × Int32) :=
  xbd (S.1 0 53) (fun v_1 => xbd (v_1 - (1 : Int32)) (fun v_2 => xob (f_X12_in S x1 (0 : Int32) v_2) (fun S_3 v_4 => xgd (v_4 = 0 ∨ v_4 = 1) (some (S_3, v_4)))))
def f_X12_isBody (S : xSt) (x1 : Int32) : Option (xSt × Int32) := f_X12_isBody_0 x1 S
def f_X12_ran_19 (S : xSt) : Option (xSt × Unit) :=
  xbd (S.1 0 55) (fun v_1 => xbd (v_1 + (1 : Int32)) (fun v_2 => xbd (xsi S 0 55 v_2) (fun S_3 => some (S_3, ()))))
def f_X12_ran_0 (x1 : Int32) (S : xSt) : Option (xSt × Unit) :=
  xbd (S.1 0 55) (fun v_1 => if (24 : Int32) ≤ v_1 then (f_X12_ran_19 S) else (xbd (S.1 0 55) (fun v_3 => xgd (xin v_3 24) (xbd (xsi S 36 v_3.toNatClampNeg x1) (fun S_4 => f_X12_ran_19 S_4)))))
def f_X12_ran (S : xSt) (x1 : Int32) : Option (xSt × Unit) := f_X12_ran_0 x1 S
def f_X12_trace_27 (S : xSt) : Option (xSt × Int32) :=
  some (S, (-1 : Int32))
def f_X12_trace_0 (x1 : Int32) (S : xSt) : Option (xSt × Int32) :=
  if x1 < 0 then (f_X12_trace_27 S) else (xbd (S.1 0 55) (fun v_2 => if v_2 ≤ x1 then (f_X12_trace_27 S) else (if (24 : Int32) ≤ x1 then (f_X12_trace_27 S) else (xgd (xin x1 24) (xbd (S.1 36 x1.toNatClampNeg) (fun v_5 => some (S, v_5)))))))
def f_X12_trace (S : xSt) (x1 : Int32) : Option (xSt × Int32) := f_X12_trace_0 x1 S
def f_X12_body_0 (x1 : Int32) (S : xSt) : Option (xSt × Int32) :=
  xob (f_X12_in S x1 (0 : Int32) (7 : Int32)) (fun S_1 v_2 => if ¬ v_2 = 0 then (xbd (S_1.1 0 53) (fun v_4 => if ¬ v_4 = (50 : Int32) then (xbd (S_1.1 0 53) (fun v_6 => xgd (xin v_6 50) (xbd (xsi S_1 35 v_6.toNatClampNeg x1) (fun S_7 => xbd (S_7.1 0 53) (fun v_8 => xbd (v_8 + (1 : Int32)) (fun v_9 => xbd (xsi S_7 0 53 v_9) (fun S_10 => xbd (S_10.1 0 53) (fun v_11 => xbd (v_11 - (1 : Int32)) (fun v_12 => some (S_10, v_12)))))))))) else (some (S_1, (-3 : Int32))))) else (some (S_1, (-1 : Int32))))
def f_X12_body (S : xSt) (x1 : Int32) : Option (xSt × Int32) := f_X12_body_0 x1 S
def f_X12_isUnder_56 (S : xSt) : Option (xSt × Int32) :=
  xgd ((1 : Int32) = 0 ∨ (1 : Int32) = 1) (some (S, (1 : Int32)))
def f_X12_isUnder_60 (S : xSt) : Option (xSt × Int32) :=
  xgd ((0 : Int32) = 0 ∨ (0 : Int32) = 1) (some (S, (0 : Int32)))
def f_X12_isUnder_44 (x0 : Int32) (x1 : Int32) (S : xSt) : Option (xSt × Int32) :=
  if ¬ x1 = (6 : Int32) then (f_X12_isUnder_60 S) else (if ¬ x0 = (7 : Int32) then (f_X12_isUnder_60 S) else (f_X12_isUnder_56 S))
def f_X12_isUnder_34 (x0 : Int32) (x1 : Int32) (S : xSt) : Option (xSt × Int32) :=
  if ¬ x1 = (3 : Int32) then (f_X12_isUnder_44 x0 x1 S) else (if x0 = (5 : Int32) then (f_X12_isUnder_56 S) else (f_X12_isUnder_44 x0 x1 S))
def f_X12_isUnder_19 (x0 : Int32) (x1 : Int32) (S : xSt) : Option (xSt × Int32) :=
  if ¬ x1 = (2 : Int32) then (f_X12_isUnder_34 x0 x1 S) else (if x0 = (3 : Int32) then (f_X12_isUnder_56 S) else (if x0 = (5 : Int32) then (f_X12_isUnder_56 S) else (f_X12_isUnder_34 x0 x1 S)))
def f_X12_isUnder_0 (x0 : Int32) (x1 : Int32) (S : xSt) : Option (xSt × Int32) :=
  if x1 = 0 then (f_X12_isUnder_56 S) else (if x0 = x1 then (f_X12_isUnder_56 S) else (if ¬ x1 = (1 : Int32) then (f_X12_isUnder_19 x0 x1 S) else (if x0 = (4 : Int32) then (f_X12_isUnder_56 S) else (f_X12_isUnder_19 x0 x1 S))))
def f_X12_isUnder (S : xSt) (x0 : Int32) (x1 : Int32) : Option (xSt × Int32) := f_X12_isUnder_0 x0 x1 S
def f_X12_plainReads_0 (x1 : Int32) (x2 : Int32) (S : xSt) : Option (xSt × Int32) :=
  xob (f_X12_ran S (1 : Int32)) (fun S_1 v_2 => xbd (x2 + x1) (fun v_3 => some (S_1, v_3)))
def f_X12_plainReads (S : xSt) (x1 : Int32) (x2 : Int32) : Option (xSt × Int32) := f_X12_plainReads_0 x1 x2 S
def f_X12_saltReads_0 (x1 : Int32) (x2 : Int32) (S : xSt) : Option (xSt × Int32) :=
  xob (f_X12_ran S (70 : Int32)) (fun S_1 v_2 => xob (f_X12_plainReads S_1 x1 x2) (fun S_3 v_4 => xbd (v_4 * (2 : Int32)) (fun v_5 => some (S_3, v_5))))
def f_X12_saltReads (S : xSt) (x1 : Int32) (x2 : Int32) : Option (xSt × Int32) := f_X12_saltReads_0 x1 x2 S
def f_X12_reading_0 (x1 : Int32) (x2 : Int32) (S : xSt) : Option (xSt × Int32) :=
  xgd (xin x1 50) (xbd (S.1 35 x1.toNatClampNeg) (fun v_1 => xob (f_X12_isUnder S v_1 (1 : Int32)) (fun S_2 v_3 => if v_3 = 0 then (xgd (xin x1 50) (xbd (S_2.1 35 x1.toNatClampNeg) (fun v_5 => if ¬ v_5 = (7 : Int32) then (xgd (xin x1 50) (xbd (S_2.1 35 x1.toNatClampNeg) (fun v_7 => if ¬ v_7 = (6 : Int32) then (xob (f_X12_plainReads S_2 x1 x2) (fun S_9 v_10 => some (S_9, v_10))) else (xob (f_X12_saltReads S_2 x1 x2) (fun S_11 v_12 => some (S_11, v_12)))))) else (xob (f_X12_ran S_2 (81 : Int32)) (fun S_13 v_14 => xob (f_X12_saltReads S_13 x1 x2) (fun S_15 v_16 => xbd (v_16 - (1 : Int32)) (fun v_17 => some (S_15, v_17)))))))) else (xob (f_X12_ran S_2 (20 : Int32)) (fun S_18 v_19 => xob (f_X12_plainReads S_18 x1 x2) (fun S_20 v_21 => xbd (v_21 + (3 : Int32)) (fun v_22 => some (S_20, v_22))))))))
def f_X12_reading (S : xSt) (x1 : Int32) (x2 : Int32) : Option (xSt × Int32) := f_X12_reading_0 x1 x2 S
def f_X12_plainHeats_0 (x1 : Int32) (x2 : Int32) (S : xSt) : Option (xSt × Int32) :=
  xob (f_X12_ran S (10 : Int32)) (fun S_1 v_2 => xob (f_X12_reading S_1 x1 x2) (fun S_3 v_4 => xbd (v_4 * (2 : Int32)) (fun v_5 => some (S_3, v_5))))
def f_X12_plainHeats (S : xSt) (x1 : Int32) (x2 : Int32) : Option (xSt × Int32) := f_X12_plainHeats_0 x1 x2 S
def f_X12_smokeHeats_0 (x1 : Int32) (x2 : Int32) (S : xSt) : Option (xSt × Int32) :=
  xob (f_X12_ran S (30 : Int32)) (fun S_1 v_2 => xob (f_X12_plainHeats S_1 x1 x2) (fun S_3 v_4 => xbd (-v_4) (fun v_5 => some (S_3, v_5))))
def f_X12_smokeHeats (S : xSt) (x1 : Int32) (x2 : Int32) : Option (xSt × Int32) := f_X12_smokeHeats_0 x1 x2 S
def f_X12_plainOpens_0 (x1 : Int32) (x2 : Int32) (S : xSt) : Option (xSt × Int32) :=
  xob (f_X12_ran S (11 : Int32)) (fun S_1 v_2 => xbd (x2 ^^^ x1) (fun v_3 => some (S_1, v_3)))
def f_X12_plainOpens (S : xSt) (x1 : Int32) (x2 : Int32) : Option (xSt × Int32) := f_X12_plainOpens_0 x1 x2 S
def f_X12_chimneyOpens_0 (x1 : Int32) (x2 : Int32) (S : xSt) : Option (xSt × Int32) :=
  xob (f_X12_ran S (40 : Int32)) (fun S_1 v_2 => xob (f_X12_plainOpens S_1 x1 x2) (fun S_3 v_4 => xbd (v_4 * (3 : Int32)) (fun v_5 => some (S_3, v_5))))
def f_X12_chimneyOpens (S : xSt) (x1 : Int32) (x2 : Int32) : Option (xSt × Int32) := f_X12_chimneyOpens_0 x1 x2 S
def f_X12_opening_0 (x1 : Int32) (x2 : Int32) (S : xSt) : Option (xSt × Int32) :=
  xgd (xin x1 50) (xbd (S.1 35 x1.toNatClampNeg) (fun v_1 => if ¬ v_1 = (5 : Int32) then (xgd (xin x1 50) (xbd (S.1 35 x1.toNatClampNeg) (fun v_3 => if ¬ v_3 = (3 : Int32) then (xob (f_X12_plainOpens S x1 x2) (fun S_5 v_6 => some (S_5, v_6))) else (xob (f_X12_chimneyOpens S x1 x2) (fun S_7 v_8 => some (S_7, v_8)))))) else (xob (f_X12_ran S (60 : Int32)) (fun S_9 v_10 => xob (f_X12_chimneyOpens S_9 x1 x2) (fun S_11 v_12 => xob (f_X12_reading S_11 x1 (2 : Int32)) (fun S_13 v_14 => xbd (v_12 - v_14) (fun v_15 => some (S_13, v_15))))))))
def f_X12_opening (S : xSt) (x1 : Int32) (x2 : Int32) : Option (xSt × Int32) := f_X12_opening_0 x1 x2 S
def f_X12_heating_0 (x1 : Int32) (x2 : Int32) (S : xSt) : Option (xSt × Int32) :=
  xgd (xin x1 50) (xbd (S.1 35 x1.toNatClampNeg) (fun v_1 => xob (f_X12_isUnder S v_1 (3 : Int32)) (fun S_2 v_3 => if v_3 = 0 then (xgd (xin x1 50) (xbd (S_2.1 35 x1.toNatClampNeg) (fun v_5 => if ¬ v_5 = (7 : Int32) then (xgd (xin x1 50) (xbd (S_2.1 35 x1.toNatClampNeg) (fun v_7 => if ¬ v_7 = (2 : Int32) then (xob (f_X12_plainHeats S_2 x1 x2) (fun S_9 v_10 => some (S_9, v_10))) else (xob (f_X12_smokeHeats S_2 x1 x2) (fun S_11 v_12 => some (S_11, v_12)))))) else (xob (f_X12_ran S_2 (80 : Int32)) (fun S_13 v_14 => xob (f_X12_plainHeats S_13 x1 x2) (fun S_15 v_16 => xob (f_X12_opening S_15 x1 (2 : Int32)) (fun S_17 v_18 => xbd (v_16 + v_18) (fun v_19 => some (S_17, v_19))))))))) else (xob (f_X12_ran S_2 (41 : Int32)) (fun S_20 v_21 => xbd (x2 + (1 : Int32)) (fun v_22 => xob (f_X12_smokeHeats S_20 x1 v_22) (fun S_23 v_24 => some (S_23, v_24))))))))
def f_X12_heating (S : xSt) (x1 : Int32) (x2 : Int32) : Option (xSt × Int32) := f_X12_heating_0 x1 x2 S
def f_X12_plainTells_0 (x1 : Int32) (x2 : Int32) (S : xSt) : Option (xSt × Int32) :=
  xob (f_X12_ran S (2 : Int32)) (fun S_1 v_2 => xob (f_X12_heating S_1 x1 x2) (fun S_3 v_4 => xob (f_X12_opening S_3 x1 (1 : Int32)) (fun S_5 v_6 => xbd (v_4 - v_6) (fun v_7 => some (S_5, v_7)))))
def f_X12_plainTells (S : xSt) (x1 : Int32) (x2 : Int32) : Option (xSt × Int32) := f_X12_plainTells_0 x1 x2 S
def f_X12_telling_0 (x1 : Int32) (x2 : Int32) (S : xSt) : Option (xSt × Int32) :=
  xgd (xin x1 50) (xbd (S.1 35 x1.toNatClampNeg) (fun v_1 => if ¬ v_1 = (4 : Int32) then (xgd (xin x1 50) (xbd (S.1 35 x1.toNatClampNeg) (fun v_3 => if ¬ v_3 = (5 : Int32) then (xob (f_X12_plainTells S x1 x2) (fun S_5 v_6 => some (S_5, v_6))) else (xob (f_X12_ran S (61 : Int32)) (fun S_7 v_8 => xob (f_X12_plainTells S_7 x1 x2) (fun S_9 v_10 => xbd (v_10 + (1 : Int32)) (fun v_11 => some (S_9, v_11)))))))) else (xob (f_X12_ran S (50 : Int32)) (fun S_12 v_13 => xob (f_X12_plainTells S_12 x1 x2) (fun S_14 v_15 => xbd (v_15 ^^^ (5 : Int32)) (fun v_16 => some (S_14, v_16)))))))
def f_X12_telling (S : xSt) (x1 : Int32) (x2 : Int32) : Option (xSt × Int32) := f_X12_telling_0 x1 x2 S
def f_X12_act_0 (x1 : Int32) (x2 : Int32) (x3 : Int32) (S : xSt) : Option (xSt × Int32) :=
  xbd (xsi S 0 55 (0 : Int32)) (fun S_1 => xob (f_X12_isBody S_1 x1) (fun S_2 v_3 => if v_3 = 0 then (some (S_2, (0 : Int32))) else (xob (f_X12_in S_2 x2 (0 : Int32) (3 : Int32)) (fun S_5 v_6 => if ¬ v_6 = 0 then (if ¬ x2 = 0 then (if ¬ x2 = (1 : Int32) then (if ¬ x2 = (2 : Int32) then (xob (f_X12_telling S_5 x1 x3) (fun S_11 v_12 => some (S_11, v_12))) else (xob (f_X12_opening S_5 x1 x3) (fun S_13 v_14 => some (S_13, v_14)))) else (xob (f_X12_heating S_5 x1 x3) (fun S_15 v_16 => some (S_15, v_16)))) else (xob (f_X12_reading S_5 x1 x3) (fun S_17 v_18 => some (S_17, v_18)))) else (some (S_5, (0 : Int32)))))))
def f_X12_act (S : xSt) (x1 : Int32) (x2 : Int32) (x3 : Int32) : Option (xSt × Int32) := f_X12_act_0 x1 x2 x3 S
def f_X12_cellMany_4 (S : xSt) (x1 : Int32) (x2 : Int32) : Option ((xSt × Int32 × Int32) ⊕ (xSt × Int32)) :=
  if (6 : Int32) ≤ x2 then (some (.inr (S, x1))) else (xgd (xin x2 6) (xbd (S.1 1 x2.toNatClampNeg) (fun v_2 => xbd (x1 + v_2) (fun v_3 => xbd (x2 + (1 : Int32)) (fun v_4 => some (.inl (S, v_3, v_4)))))))
def f_X12_cellMany_0 (S : xSt) : Option (xSt × Int32) :=
  xlp (fun q : (xSt × Int32 × Int32) => f_X12_cellMany_4 q.1 q.2.1 q.2.2) 5000 (S, (0 : Int32), (0 : Int32))
def f_X12_cellMany (S : xSt) : Option (xSt × Int32) := f_X12_cellMany_0 S
def f_X12_glowsNow_0 (S : xSt) : Option (xSt × Int32) :=
  xob (f_X12_layNow S) (fun S_1 v_2 => xob (f_X12_glowMany S_1) (fun S_3 v_4 => some (S_3, v_4)))
def f_X12_glowsNow (S : xSt) : Option (xSt × Int32) := f_X12_glowsNow_0 S
def f_X12_count_0 (x1 : Int32) (S : xSt) : Option (xSt × Int32) :=
  if x1 = (0 : Int32) then (xob (f_X12_cellMany S) (fun S_2 v_3 => some (S_2, v_3))) else (if x1 = (1 : Int32) then (xob (f_X12_glowsNow S) (fun S_5 v_6 => some (S_5, v_6))) else (if x1 = (2 : Int32) then (xbd (S.1 0 17) (fun v_8 => some (S, v_8))) else (if x1 = (3 : Int32) then (xbd (S.1 0 10) (fun v_10 => some (S, v_10))) else (if x1 = (4 : Int32) then (xbd (S.1 0 53) (fun v_12 => some (S, v_12))) else (if x1 = (5 : Int32) then (xbd (S.1 0 55) (fun v_14 => some (S, v_14))) else (some (S, (-1 : Int32))))))))
def f_X12_count (S : xSt) (x1 : Int32) : Option (xSt × Int32) := f_X12_count_0 x1 S
def f_X12_keep_22 (x1 : Int32) (x2 : Int32) (S : xSt) : Option (xSt × Int32) :=
  xgd (xin x1 6) (xbd (xsi S 37 x1.toNatClampNeg x2) (fun S_1 => some (S_1, (1 : Int32))))
def f_X12_keep_0 (x1 : Int32) (x2 : Int32) (S : xSt) : Option (xSt × Int32) :=
  xob (f_X12_isShelf S x1) (fun S_1 v_2 => if v_2 = 0 then (some (S_1, (-1 : Int32))) else (if x2 = (-1 : Int32) then (f_X12_keep_22 x1 x2 S_1) else (xob (f_X12_isBody S_1 x2) (fun S_5 v_6 => if ¬ v_6 = 0 then (f_X12_keep_22 x1 x2 S_5) else (some (S_5, (-1 : Int32)))))))
def f_X12_keep (S : xSt) (x1 : Int32) (x2 : Int32) : Option (xSt × Int32) := f_X12_keep_0 x1 x2 S
def f_X12_row_54 (x1 : Int32) (S : xSt) (x4 : Int32) : Option ((xSt × Int32) ⊕ (xSt × Int32)) :=
  xbd ((60 : Int32) * x1) (fun v_1 => xbd (v_1 + (60 : Int32)) (fun v_2 => if v_2 ≤ x4 then (some (.inr (S, (1 : Int32)))) else (xgd (xin x4 360) (xbd (xsl S 39 x4.toNatClampNeg (0 : Int64)) (fun S_4 => xbd (x4 + (1 : Int32)) (fun v_5 => some (.inl (S_4, v_5))))))))
def f_X12_row_0 (x1 : Int32) (x2 : Int32) (x3 : Int32) (S : xSt) : Option (xSt × Int32) :=
  xob (f_X12_isShelf S x1) (fun S_1 v_2 => if v_2 = 0 then (some (S_1, (-1 : Int32))) else (xob (f_X12_in S_1 x2 (0 : Int32) (4 : Int32)) (fun S_4 v_5 => if v_5 = 0 then (some (S_4, (-1 : Int32))) else (if x3 ≤ (60 : Int32) then (if 0 ≤ x3 then (xbd ((-2 : Int32) - x2) (fun v_9 => xgd (xin x1 6) (xbd (xsi S_4 37 x1.toNatClampNeg v_9) (fun S_10 => xgd (xin x1 6) (xbd (xsi S_10 38 x1.toNatClampNeg x3) (fun S_11 => xbd ((60 : Int32) * x1) (fun v_12 => xlp (fun q : (xSt × Int32) => f_X12_row_54 x1 q.1 q.2) 5000 (S_11, v_12)))))))) else (some (S_4, (-14 : Int32)))) else (some (S_4, (-1 : Int32)))))))
def f_X12_row (S : xSt) (x1 : Int32) (x2 : Int32) (x3 : Int32) : Option (xSt × Int32) := f_X12_row_0 x1 x2 x3 S
def f_X12_whyNoPlace_0 (x1 : Int32) (x2 : Int32) (S : xSt) : Option (xSt × Int32) :=
  xob (f_X12_isShelf S x1) (fun S_1 v_2 => if ¬ v_2 = 0 then (xgd (xin x1 6) (xbd (S_1.1 37 x1.toNatClampNeg) (fun v_4 => if ¬ v_4 = (-1 : Int32) then (xgd (xin x1 6) (xbd (S_1.1 37 x1.toNatClampNeg) (fun v_6 => if v_6 < 0 then (xgd (xin x1 6) (xbd (S_1.1 38 x1.toNatClampNeg) (fun v_8 => xbd (v_8 - (1 : Int32)) (fun v_9 => xob (f_X12_in S_1 x2 (0 : Int32) v_9) (fun S_10 v_11 => if v_11 = 0 then (some (S_10, (-13 : Int32))) else (some (S_10, (0 : Int32)))))))) else (some (S_1, (-12 : Int32)))))) else (some (S_1, (-11 : Int32)))))) else (some (S_1, (-1 : Int32))))
def f_X12_whyNoPlace (S : xSt) (x1 : Int32) (x2 : Int32) : Option (xSt × Int32) := f_X12_whyNoPlace_0 x1 x2 S
def f_X12_put_0 (x1 : Int32) (x2 : Int32) (x3 : Int64) (S : xSt) : Option (xSt × Int32) :=
  xob (f_X12_whyNoPlace S x1 x2) (fun S_1 v_2 => if 0 ≤ v_2 then (xgd (xin x1 6) (xbd (S_1.1 37 x1.toNatClampNeg) (fun v_4 => xbd ((-2 : Int32) - v_4) (fun v_5 => xbd ((60 : Int32) * x1) (fun v_6 => xbd (v_6 + x2) (fun v_7 => if ¬ v_5 = 0 then (if ¬ v_5 = (1 : Int32) then (if ¬ v_5 = (2 : Int32) then (if ¬ v_5 = (3 : Int32) then (xbd (lg_cmp x3 (0 : Int64)) (fun v_12 => if v_12 = 0 then (xgd (xin v_7 360) (xbd (xsl S_1 39 v_7.toNatClampNeg (0 : Int64)) (fun S_14 => some (S_14, (1 : Int32))))) else (xgd (xin v_7 360) (xbd (xsl S_1 39 v_7.toNatClampNeg (1 : Int64)) (fun S_15 => some (S_15, (1 : Int32))))))) else (xgd (xin v_7 360) (xbd (xsl S_1 39 v_7.toNatClampNeg x3) (fun S_16 => some (S_16, (1 : Int32)))))) else (xbd (x3.toInt32) (fun v_17 => xbd (v_17.toInt64) (fun v_18 => xgd (xin v_7 360) (xbd (xsl S_1 39 v_7.toNatClampNeg v_18) (fun S_19 => some (S_19, (1 : Int32)))))))) else (xbd (x3.toInt32) (fun v_20 => xbd (v_20.toInt16.toInt32) (fun v_21 => xbd (v_21.toInt64) (fun v_22 => xgd (xin v_7 360) (xbd (xsl S_1 39 v_7.toNatClampNeg v_22) (fun S_23 => some (S_23, (1 : Int32))))))))) else (xbd (x3.toInt32) (fun v_24 => xbd (v_24.toInt8.toInt32) (fun v_25 => xbd (v_25.toInt64) (fun v_26 => xgd (xin v_7 360) (xbd (xsl S_1 39 v_7.toNatClampNeg v_26) (fun S_27 => some (S_27, (1 : Int32)))))))))))))) else (some (S_1, v_2)))
def f_X12_put (S : xSt) (x1 : Int32) (x2 : Int32) (x3 : Int64) : Option (xSt × Int32) := f_X12_put_0 x1 x2 x3 S
def f_X12_element_0 (x1 : Int32) (x2 : Int32) (S : xSt) : Option (xSt × Int64) :=
  xob (f_X12_whyNoPlace S x1 x2) (fun S_1 v_2 => if 0 ≤ v_2 then (xbd ((60 : Int32) * x1) (fun v_4 => xbd (v_4 + x2) (fun v_5 => xgd (xin v_5 360) (xbd (S_1.2 39 v_5.toNatClampNeg) (fun v_6 => some (S_1, v_6)))))) else (some (S_1, (-9223372036854775808 : Int64))))
def f_X12_element (S : xSt) (x1 : Int32) (x2 : Int32) : Option (xSt × Int64) := f_X12_element_0 x1 x2 S
def f_X12_shift_150 (x3 : Int32) (x4 : Int32) (x5 : Int32) (S : xSt) (x6 : Int32) : Option ((xSt × Int32) ⊕ (xSt × Int32)) :=
  if x5 ≤ x6 then (some (.inr (S, x5))) else (xbd ((60 : Int32) * x3) (fun v_2 => xbd (v_2 + x4) (fun v_3 => xbd (v_3 + x6) (fun v_4 => xgd (xin x6 60) (xbd (S.2 40 x6.toNatClampNeg) (fun v_5 => xgd (xin v_4 360) (xbd (xsl S 39 v_4.toNatClampNeg v_5) (fun S_6 => xbd (x6 + (1 : Int32)) (fun v_7 => some (.inl (S_6, v_7)))))))))))
def f_X12_shift_147 (x3 : Int32) (x4 : Int32) (x5 : Int32) (S : xSt) : Option (xSt × Int32) :=
  xlp (fun q : (xSt × Int32) => f_X12_shift_150 x3 x4 x5 q.1 q.2) 5000 (S, (0 : Int32))
def f_X12_shift_113 (x1 : Int32) (x2 : Int32) (x3 : Int32) (x4 : Int32) (x5 : Int32) (S : xSt) (x6 : Int32) : Option ((xSt × Int32) ⊕ (xSt × Int32)) :=
  if x5 ≤ x6 then (xmr (f_X12_shift_147 x3 x4 x5 S)) else (xbd ((60 : Int32) * x1) (fun v_2 => xbd (v_2 + x2) (fun v_3 => xbd (v_3 + x6) (fun v_4 => xgd (xin v_4 360) (xbd (S.2 39 v_4.toNatClampNeg) (fun v_5 => xgd (xin x6 60) (xbd (xsl S 40 x6.toNatClampNeg v_5) (fun S_6 => xbd (x6 + (1 : Int32)) (fun v_7 => some (.inl (S_6, v_7)))))))))))
def f_X12_shift_0 (x1 : Int32) (x2 : Int32) (x3 : Int32) (x4 : Int32) (x5 : Int32) (S : xSt) : Option (xSt × Int32) :=
  xob (f_X12_isShelf S x1) (fun S_1 v_2 => if v_2 = 0 then (some (S_1, (-1 : Int32))) else (xob (f_X12_isShelf S_1 x3) (fun S_4 v_5 => if ¬ v_5 = 0 then (xgd (xin x1 6) (xbd (S_4.1 37 x1.toNatClampNeg) (fun v_7 => if v_7 = (-1 : Int32) then (some (S_4, (-11 : Int32))) else (xgd (xin x3 6) (xbd (S_4.1 37 x3.toNatClampNeg) (fun v_9 => if ¬ v_9 = (-1 : Int32) then (xgd (xin x1 6) (xbd (S_4.1 37 x1.toNatClampNeg) (fun v_11 => if 0 ≤ v_11 then (some (S_4, (-12 : Int32))) else (xgd (xin x1 6) (xbd (S_4.1 37 x1.toNatClampNeg) (fun v_13 => xgd (xin x3 6) (xbd (S_4.1 37 x3.toNatClampNeg) (fun v_14 => if v_13 = v_14 then (if x5 < 0 then (some (S_4, (-13 : Int32))) else (if x2 < 0 then (some (S_4, (-13 : Int32))) else (if x4 < 0 then (some (S_4, (-13 : Int32))) else (xgd (xin x1 6) (xbd (S_4.1 38 x1.toNatClampNeg) (fun v_19 => xbd (v_19 - x5) (fun v_20 => if v_20 < x2 then (some (S_4, (-13 : Int32))) else (xgd (xin x3 6) (xbd (S_4.1 38 x3.toNatClampNeg) (fun v_22 => xbd (v_22 - x5) (fun v_23 => if x4 ≤ v_23 then (xlp (fun q : (xSt × Int32) => f_X12_shift_113 x1 x2 x3 x4 x5 q.1 q.2) 5000 (S_4, (0 : Int32))) else (some (S_4, (-13 : Int32)))))))))))))) else (some (S_4, (-12 : Int32))))))))))) else (some (S_4, (-11 : Int32))))))))) else (some (S_4, (-1 : Int32))))))
def f_X12_shift (S : xSt) (x1 : Int32) (x2 : Int32) (x3 : Int32) (x4 : Int32) (x5 : Int32) : Option (xSt × Int32) := f_X12_shift_0 x1 x2 x3 x4 x5 S
def f_X12_taken_73 (S : xSt) : Option (xSt × Int32) :=
  some (S, (-12 : Int32))
def f_X12_taken_0 (x1 : Int32) (x2 : Int32) (S : xSt) : Option (xSt × Int32) :=
  xob (f_X12_isShelf S x1) (fun S_1 v_2 => if v_2 = 0 then (some (S_1, (-1 : Int32))) else (xob (f_X12_in S_1 x2 (0 : Int32) (7 : Int32)) (fun S_4 v_5 => if ¬ v_5 = 0 then (xgd (xin x1 6) (xbd (S_4.1 37 x1.toNatClampNeg) (fun v_7 => if ¬ v_7 = (-1 : Int32) then (xgd (xin x1 6) (xbd (S_4.1 37 x1.toNatClampNeg) (fun v_9 => if v_9 < 0 then (f_X12_taken_73 S_4) else (xgd (xin x1 6) (xbd (S_4.1 37 x1.toNatClampNeg) (fun v_11 => xgd (xin v_11 50) (xbd (S_4.1 35 v_11.toNatClampNeg) (fun v_12 => xob (f_X12_isUnder S_4 v_12 x2) (fun S_13 v_14 => if v_14 = 0 then (f_X12_taken_73 S_13) else (xgd (xin x1 6) (xbd (S_13.1 37 x1.toNatClampNeg) (fun v_16 => xgd (xin v_16 50) (xbd (S_13.1 35 v_16.toNatClampNeg) (fun v_17 => some (S_13, v_17))))))))))))))) else (some (S_4, (-11 : Int32)))))) else (some (S_4, (-1 : Int32))))))
def f_X12_taken (S : xSt) (x1 : Int32) (x2 : Int32) : Option (xSt × Int32) := f_X12_taken_0 x1 x2 S
