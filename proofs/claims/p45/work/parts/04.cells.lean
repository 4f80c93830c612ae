def xtb : xTb := [(11, 0, [4, 10, 18, 28, 0, 88, 89, 91, 95, 97, 98, 103, 3]), (105, 6, [104, 2]), (9, 0, [5, 0, 6, 7, 0, 8, 9, 0, 0, 0]), (100, 120, []), (100, 120, []), (100, 120, []), (100, 120, []), (100, 120, []), (5, 0, [0, 11, 12, 13, 14, 15, 16, 17]), (100, 120, []), (100, 120, []), (100, 120, []), (100, 120, []), (100, 8, []), (100, 64, []), (100, 2048, []), (4, 0, [10, 19, 20, 21, 22, 23, 24, 25, 26, 27, 0, 0]), (100, 6, []), (100, 6, []), (100, 30, []), (100, 30, []), (100, 30, []), (100, 30, []), (100, 30, []), (100, 6, []), (100, 30, []), (4, 0, [10, 29, 30, 31, 32, 33, 34, 35, 36, 37, 0, 0]), (100, 6, []), (100, 6, []), (100, 30, []), (100, 30, []), (100, 30, []), (100, 30, []), (100, 30, []), (100, 6, []), (100, 30, []), (4, 0, [10, 39, 40, 41, 42, 43, 44, 45, 46, 47, 0, 0]), (100, 6, []), (100, 6, []), (100, 30, []), (100, 30, []), (100, 30, []), (100, 30, []), (100, 30, []), (100, 6, []), (100, 30, []), (4, 0, [10, 49, 50, 51, 52, 53, 54, 55, 56, 57, 0, 0]), (100, 6, []), (100, 6, []), (100, 30, []), (100, 30, []), (100, 30, []), (100, 30, []), (100, 30, []), (100, 6, []), (100, 30, []), (4, 0, [10, 59, 60, 61, 62, 63, 64, 65, 66, 67, 0, 0]), (100, 6, []), (100, 6, []), (100, 30, []), (100, 30, []), (100, 30, []), (100, 30, []), (100, 30, []), (100, 6, []), (100, 30, []), (4, 0, [10, 69, 70, 71, 72, 73, 74, 75, 76, 77, 0, 0]), (100, 6, []), (100, 6, []), (100, 30, []), (100, 30, []), (100, 30, []), (100, 30, []), (100, 30, []), (100, 6, []), (100, 30, []), (4, 0, [10, 79, 80, 81, 82, 83, 84, 85, 86, 87, 0, 0]), (100, 6, []), (100, 6, []), (100, 30, []), (100, 30, []), (100, 30, []), (100, 30, []), (100, 30, []), (100, 6, []), (100, 30, []), (10, 0, [18, 38, 0, 0]), (7, 0, [18, 90, 0]), (100, 30, []), (6, 0, [18, 38, 92, 93, 94, 0, 0]), (100, 6, []), (100, 6, []), (100, 6, []), (3, 0, [18, 96, 0, 0, 0, 0]), (104, 4, [46, 10]), (1, 0, [18, 38]), (2, 0, [99, 100, 101, 102, 0, 0]), (100, 40, []), (100, 40, []), (100, 40, []), (100, 40, []), (0, 0, [104, 0, 105, 0, 0]), (100, 50, []), (100, 24, []), (8, 0, [0, 0, 0, 0, 107]), (103, 60, []), (8, 0, [0, 0, 0, 0, 109]), (103, 60, []), (8, 0, [0, 0, 0, 0, 111]), (103, 60, []), (8, 0, [0, 0, 0, 0, 113]), (103, 60, []), (8, 0, [0, 0, 0, 0, 115]), (103, 60, []), (8, 0, [0, 0, 0, 0, 117]), (103, 60, [])]
theorem xct_0 : xtb[0]? = some (11, 0, [4, 10, 18, 28, 0, 88, 89, 91, 95, 97, 98, 103, 3]) := rfl
theorem xct_1 : xtb[1]? = some (105, 6, [104, 2]) := rfl
theorem xct_2 : xtb[2]? = some (9, 0, [5, 0, 6, 7, 0, 8, 9, 0, 0, 0]) := rfl
theorem xct_3 : xtb[3]? = some (100, 120, []) := rfl
theorem xct_4 : xtb[4]? = some (100, 120, []) := rfl
theorem xct_5 : xtb[5]? = some (100, 120, []) := rfl
theorem xct_6 : xtb[6]? = some (100, 120, []) := rfl
theorem xct_7 : xtb[7]? = some (100, 120, []) := rfl
theorem xct_8 : xtb[8]? = some (5, 0, [0, 11, 12, 13, 14, 15, 16, 17]) := rfl
theorem xct_9 : xtb[9]? = some (100, 120, []) := rfl
theorem xct_10 : xtb[10]? = some (100, 120, []) := rfl
theorem xct_11 : xtb[11]? = some (100, 120, []) := rfl
theorem xct_12 : xtb[12]? = some (100, 120, []) := rfl
theorem xct_13 : xtb[13]? = some (100, 8, []) := rfl
theorem xct_14 : xtb[14]? = some (100, 64, []) := rfl
theorem xct_15 : xtb[15]? = some (100, 2048, []) := rfl
theorem xct_16 : xtb[16]? = some (4, 0, [10, 19, 20, 21, 22, 23, 24, 25, 26, 27, 0, 0]) := rfl
theorem xct_17 : xtb[17]? = some (100, 6, []) := rfl
theorem xct_18 : xtb[18]? = some (100, 6, []) := rfl
theorem xct_19 : xtb[19]? = some (100, 30, []) := rfl
theorem xct_20 : xtb[20]? = some (100, 30, []) := rfl
theorem xct_21 : xtb[21]? = some (100, 30, []) := rfl
theorem xct_22 : xtb[22]? = some (100, 30, []) := rfl
theorem xct_23 : xtb[23]? = some (100, 30, []) := rfl
theorem xct_24 : xtb[24]? = some (100, 6, []) := rfl
theorem xct_25 : xtb[25]? = some (100, 30, []) := rfl
theorem xct_26 : xtb[26]? = some (4, 0, [10, 29, 30, 31, 32, 33, 34, 35, 36, 37, 0, 0]) := rfl
theorem xct_27 : xtb[27]? = some (100, 6, []) := rfl
theorem xct_28 : xtb[28]? = some (100, 6, []) := rfl
theorem xct_29 : xtb[29]? = some (100, 30, []) := rfl
theorem xct_30 : xtb[30]? = some (100, 30, []) := rfl
theorem xct_31 : xtb[31]? = some (100, 30, []) := rfl
theorem xct_32 : xtb[32]? = some (100, 30, []) := rfl
theorem xct_33 : xtb[33]? = some (100, 30, []) := rfl
theorem xct_34 : xtb[34]? = some (100, 6, []) := rfl
theorem xct_35 : xtb[35]? = some (100, 30, []) := rfl
theorem xct_36 : xtb[36]? = some (4, 0, [10, 39, 40, 41, 42, 43, 44, 45, 46, 47, 0, 0]) := rfl
theorem xct_37 : xtb[37]? = some (100, 6, []) := rfl
theorem xct_38 : xtb[38]? = some (100, 6, []) := rfl
theorem xct_39 : xtb[39]? = some (100, 30, []) := rfl
theorem xct_40 : xtb[40]? = some (100, 30, []) := rfl
theorem xct_41 : xtb[41]? = some (100, 30, []) := rfl
theorem xct_42 : xtb[42]? = some (100, 30, []) := rfl
theorem xct_43 : xtb[43]? = some (100, 30, []) := rfl
theorem xct_44 : xtb[44]? = some (100, 6, []) := rfl
theorem xct_45 : xtb[45]? = some (100, 30, []) := rfl
theorem xct_46 : xtb[46]? = some (4, 0, [10, 49, 50, 51, 52, 53, 54, 55, 56, 57, 0, 0]) := rfl
theorem xct_47 : xtb[47]? = some (100, 6, []) := rfl
theorem xct_48 : xtb[48]? = some (100, 6, []) := rfl
theorem xct_49 : xtb[49]? = some (100, 30, []) := rfl
theorem xct_50 : xtb[50]? = some (100, 30, []) := rfl
theorem xct_51 : xtb[51]? = some (100, 30, []) := rfl
theorem xct_52 : xtb[52]? = some (100, 30, []) := rfl
theorem xct_53 : xtb[53]? = some (100, 30, []) := rfl
theorem xct_54 : xtb[54]? = some (100, 6, []) := rfl
theorem xct_55 : xtb[55]? = some (100, 30, []) := rfl
theorem xct_56 : xtb[56]? = some (4, 0, [10, 59, 60, 61, 62, 63, 64, 65, 66, 67, 0, 0]) := rfl
theorem xct_57 : xtb[57]? = some (100, 6, []) := rfl
theorem xct_58 : xtb[58]? = some (100, 6, []) := rfl
theorem xct_59 : xtb[59]? = some (100, 30, []) := rfl
theorem xct_60 : xtb[60]? = some (100, 30, []) := rfl
theorem xct_61 : xtb[61]? = some (100, 30, []) := rfl
theorem xct_62 : xtb[62]? = some (100, 30, []) := rfl
theorem xct_63 : xtb[63]? = some (100, 30, []) := rfl
theorem xct_64 : xtb[64]? = some (100, 6, []) := rfl
theorem xct_65 : xtb[65]? = some (100, 30, []) := rfl
theorem xct_66 : xtb[66]? = some (4, 0, [10, 69, 70, 71, 72, 73, 74, 75, 76, 77, 0, 0]) := rfl
theorem xct_67 : xtb[67]? = some (100, 6, []) := rfl
theorem xct_68 : xtb[68]? = some (100, 6, []) := rfl
theorem xct_69 : xtb[69]? = some (100, 30, []) := rfl
theorem xct_70 : xtb[70]? = some (100, 30, []) := rfl
theorem xct_71 : xtb[71]? = some (100, 30, []) := rfl
theorem xct_72 : xtb[72]? = some (100, 30, []) := rfl
theorem xct_73 : xtb[73]? = some (100, 30, []) := rfl
theorem xct_74 : xtb[74]? = some (100, 6, []) := rfl
theorem xct_75 : xtb[75]? = some (100, 30, []) := rfl
theorem xct_76 : xtb[76]? = some (4, 0, [10, 79, 80, 81, 82, 83, 84, 85, 86, 87, 0, 0]) := rfl
theorem xct_77 : xtb[77]? = some (100, 6, []) := rfl
theorem xct_78 : xtb[78]? = some (100, 6, []) := rfl
theorem xct_79 : xtb[79]? = some (100, 30, []) := rfl
theorem xct_80 : xtb[80]? = some (100, 30, []) := rfl
theorem xct_81 : xtb[81]? = some (100, 30, []) := rfl
theorem xct_82 : xtb[82]? = some (100, 30, []) := rfl
theorem xct_83 : xtb[83]? = some (100, 30, []) := rfl
theorem xct_84 : xtb[84]? = some (100, 6, []) := rfl
theorem xct_85 : xtb[85]? = some (100, 30, []) := rfl
theorem xct_86 : xtb[86]? = some (10, 0, [18, 38, 0, 0]) := rfl
theorem xct_87 : xtb[87]? = some (7, 0, [18, 90, 0]) := rfl
theorem xct_88 : xtb[88]? = some (100, 30, []) := rfl
theorem xct_89 : xtb[89]? = some (6, 0, [18, 38, 92, 93, 94, 0, 0]) := rfl
theorem xct_90 : xtb[90]? = some (100, 6, []) := rfl
theorem xct_91 : xtb[91]? = some (100, 6, []) := rfl
theorem xct_92 : xtb[92]? = some (100, 6, []) := rfl
theorem xct_93 : xtb[93]? = some (3, 0, [18, 96, 0, 0, 0, 0]) := rfl
theorem xct_94 : xtb[94]? = some (104, 4, [46, 10]) := rfl
theorem xct_95 : xtb[95]? = some (1, 0, [18, 38]) := rfl
theorem xct_96 : xtb[96]? = some (2, 0, [99, 100, 101, 102, 0, 0]) := rfl
theorem xct_97 : xtb[97]? = some (100, 40, []) := rfl
theorem xct_98 : xtb[98]? = some (100, 40, []) := rfl
theorem xct_99 : xtb[99]? = some (100, 40, []) := rfl
theorem xct_100 : xtb[100]? = some (100, 40, []) := rfl
theorem xct_101 : xtb[101]? = some (0, 0, [104, 0, 105, 0, 0]) := rfl
theorem xct_102 : xtb[102]? = some (100, 50, []) := rfl
theorem xct_103 : xtb[103]? = some (100, 24, []) := rfl
theorem xct_104 : xtb[104]? = some (8, 0, [0, 0, 0, 0, 107]) := rfl
theorem xct_105 : xtb[105]? = some (103, 60, []) := rfl
theorem xct_106 : xtb[106]? = some (8, 0, [0, 0, 0, 0, 109]) := rfl
theorem xct_107 : xtb[107]? = some (103, 60, []) := rfl
theorem xct_108 : xtb[108]? = some (8, 0, [0, 0, 0, 0, 111]) := rfl
theorem xct_109 : xtb[109]? = some (103, 60, []) := rfl
theorem xct_110 : xtb[110]? = some (8, 0, [0, 0, 0, 0, 113]) := rfl
theorem xct_111 : xtb[111]? = some (103, 60, []) := rfl
theorem xct_112 : xtb[112]? = some (8, 0, [0, 0, 0, 0, 115]) := rfl
theorem xct_113 : xtb[113]? = some (103, 60, []) := rfl
theorem xct_114 : xtb[114]? = some (8, 0, [0, 0, 0, 0, 117]) := rfl
theorem xct_115 : xtb[115]? = some (103, 60, []) := rfl
def xIs_X4 (k : Nat) : Prop := xtb[k]? = some (4, 0, [10, k + 3, k + 4, k + 5, k + 6, k + 7, k + 8, k + 9, k + 10, k + 11, 0, 0]) ∧ xtb[k + 1]? = some (100, 6, []) ∧ xtb[k + 2]? = some (100, 6, []) ∧ xtb[k + 3]? = some (100, 30, []) ∧ xtb[k + 4]? = some (100, 30, []) ∧ xtb[k + 5]? = some (100, 30, []) ∧ xtb[k + 6]? = some (100, 30, []) ∧ xtb[k + 7]? = some (100, 30, []) ∧ xtb[k + 8]? = some (100, 6, []) ∧ xtb[k + 9]? = some (100, 30, [])
theorem xih_hay : xIs_X4 16 := ⟨rfl, rfl, rfl, rfl, rfl, rfl, rfl, rfl, rfl, rfl⟩
theorem xih_image : xIs_X4 26 := ⟨rfl, rfl, rfl, rfl, rfl, rfl, rfl, rfl, rfl, rfl⟩
theorem xih_mind : xIs_X4 36 := ⟨rfl, rfl, rfl, rfl, rfl, rfl, rfl, rfl, rfl, rfl⟩
theorem xih_v0 : xIs_X4 46 := ⟨rfl, rfl, rfl, rfl, rfl, rfl, rfl, rfl, rfl, rfl⟩
theorem xih_v1 : xIs_X4 56 := ⟨rfl, rfl, rfl, rfl, rfl, rfl, rfl, rfl, rfl, rfl⟩
theorem xih_v2 : xIs_X4 66 := ⟨rfl, rfl, rfl, rfl, rfl, rfl, rfl, rfl, rfl, rfl⟩
theorem xih_v3 : xIs_X4 76 := ⟨rfl, rfl, rfl, rfl, rfl, rfl, rfl, rfl, rfl, rfl⟩
def xIs_X8 (k : Nat) : Prop := xtb[k]? = some (8, 0, [0, 0, 0, 0, k + 3]) ∧ xtb[k + 1]? = some (103, 60, [])
theorem xih_s0 : xIs_X8 104 := ⟨rfl, rfl⟩
theorem xih_s1 : xIs_X8 106 := ⟨rfl, rfl⟩
theorem xih_s2 : xIs_X8 108 := ⟨rfl, rfl⟩
theorem xih_s3 : xIs_X8 110 := ⟨rfl, rfl⟩
theorem xih_s4 : xIs_X8 112 := ⟨rfl, rfl⟩
theorem xih_s5 : xIs_X8 114 := ⟨rfl, rfl⟩
theorem xin_lt {i : Int32} {n : Nat} (h : xin i n) : i.toNatClampNeg < n := Nat.not_le.mp fun q => h (Or.inr q)
theorem xih_view {i : Int32} (h : xin i 4) : xIs_X4 (46 + 10 * i.toNatClampNeg) := by
  have hl := xin_lt h
  generalize i.toNatClampNeg = n at hl ⊢
  match n, hl with
  | 0, _ => exact xih_v0
  | 1, _ => exact xih_v1
  | 2, _ => exact xih_v2
  | 3, _ => exact xih_v3
theorem xih_shelf {i : Int32} (h : xin i 6) : xIs_X8 (104 + 2 * i.toNatClampNeg) := by
  have hl := xin_lt h
  generalize i.toNatClampNeg = n at hl ⊢
  match n, hl with
  | 0, _ => exact xih_s0
  | 1, _ => exact xih_s1
  | 2, _ => exact xih_s2
  | 3, _ => exact xih_s3
  | 4, _ => exact xih_s4
  | 5, _ => exact xih_s5
