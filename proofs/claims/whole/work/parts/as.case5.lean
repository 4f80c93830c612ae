/-! part as: the law's cases 30 to 35 -/
theorem dL_law_1067 : decode cL_law 1067 = .ok (.aload_n 1, 1) := by decide +kernel
theorem dL_law_1068 : decode cL_law 1068 = .ok (.invokevirtual 138, 3) := by decide +kernel
theorem dL_law_1071 : decode cL_law 1071 = .ok (.aload_n 2, 1) := by decide +kernel
theorem dL_law_1072 : decode cL_law 1072 = .ok (.invokevirtual 141, 3) := by decide +kernel
theorem dL_law_1075 : decode cL_law 1075 = .ok (.if_icmp .eq 409, 3) := by decide +kernel
set_option maxHeartbeats 4000000 in
set_option maxRecDepth 100000 in
/-- undo -/
theorem lc_30 {p : Program} {l : Launch} {e : Env} {s : State} {m : MethodId} {below : List Frame} {meth : Method} {c : Code} {b L : Nat} {xs : Nat → Int32} {D : va_G} {cy : Nat → ClassId} {z a a' : Nat → Nat} {ls : Array Slot} {x3 : Int32} {Q : State → Prop} (B : lwB p s m meth c b L xs D cy z a a' ls x3) (kk : lwC p l e s m below meth c b D cy a a' ls Q 1484) : lwC p l e s m below meth c b D cy a a' ls Q 1067 := by
  intro SX SM H locs hRR hP hS
  obtain ⟨η, gn, hR⟩ := hRR
  obtain ⟨⟨hx, hb, hr, hml, hown, hts, hX, hbl, hlocks, hgv⟩, hK, hIx, hIm, hEx, hDD, hl, hj⟩ := id B
  have hts' : ∀ w ∈ xTB, w.before #[Value.ref b] s = true := fun w hw => hts w (List.mem_filter.mp hw).1
  have hbA : ¬ (fun q : Nat => s.heap.size ≤ q) b := Nat.not_le.mpr hbl
  refine lv_aload_n hx hb dL_law_1067 rfl (lv_at hl 1 rfl) ?_
  obtain ⟨v, SX', SM', e1, e2, hR'⟩ := q_undo hR 
  refine lx_i B hP hS (rest := []) (n := 0) ⟨xw_mem 966 (by decide +kernel) rfl, xw_mem 98 (by decide +kernel) rfl, xw_mem 963 (by decide +kernel) rfl, by decide +kernel⟩ (xw_mem 964 (by decide +kernel) rfl) (xw_mem 965 (by decide +kernel) rfl) [] (c_X11_undo (z := z) hIx e1 H.size) (by decide) rfl rfl (Nat.le_of_ble_eq_true rfl) dL_law_1068 (fun H locs hP hS => ?_)
  refine lv_aload_n hx hb dL_law_1071 rfl (lv_at hl 2 rfl) ?_
  refine lm_i B hP hS (rest := [.int v]) (n := 0) ⟨xw_mem 1303 (by decide +kernel) rfl, xw_mem 110 (by decide +kernel) rfl, xw_mem 1300 (by decide +kernel) rfl, by decide +kernel⟩ (xw_mem 1301 (by decide +kernel) rfl) (xw_mem 1302 (by decide +kernel) rfl) [] (c_X12_undo (z := z) hIm e2 H.size) (by decide) rfl rfl (Nat.le_of_ble_eq_true rfl) dL_law_1072 (fun H locs hP hS => ?_)
  refine lv_icmp_eq (tgt := 1484) hx hb dL_law_1075 (by decide) (fun _ => ?_) (fun cq => absurd rfl cq)
  exact kk _ _ _ _ hR' hP hS
theorem dL_law_1080 : decode cL_law 1080 = .ok (.aload_n 1, 1) := by decide +kernel
theorem dL_law_1081 : decode cL_law 1081 = .ok (.invokevirtual 142, 3) := by decide +kernel
theorem dL_law_1084 : decode cL_law 1084 = .ok (.aload_n 2, 1) := by decide +kernel
theorem dL_law_1085 : decode cL_law 1085 = .ok (.invokevirtual 145, 3) := by decide +kernel
theorem dL_law_1088 : decode cL_law 1088 = .ok (.if_icmp .eq 396, 3) := by decide +kernel
set_option maxHeartbeats 4000000 in
set_option maxRecDepth 100000 in
/-- redo -/
theorem lc_31 {p : Program} {l : Launch} {e : Env} {s : State} {m : MethodId} {below : List Frame} {meth : Method} {c : Code} {b L : Nat} {xs : Nat → Int32} {D : va_G} {cy : Nat → ClassId} {z a a' : Nat → Nat} {ls : Array Slot} {x3 : Int32} {Q : State → Prop} (B : lwB p s m meth c b L xs D cy z a a' ls x3) (kk : lwC p l e s m below meth c b D cy a a' ls Q 1484) : lwC p l e s m below meth c b D cy a a' ls Q 1080 := by
  intro SX SM H locs hRR hP hS
  obtain ⟨η, gn, hR⟩ := hRR
  obtain ⟨⟨hx, hb, hr, hml, hown, hts, hX, hbl, hlocks, hgv⟩, hK, hIx, hIm, hEx, hDD, hl, hj⟩ := id B
  have hts' : ∀ w ∈ xTB, w.before #[Value.ref b] s = true := fun w hw => hts w (List.mem_filter.mp hw).1
  have hbA : ¬ (fun q : Nat => s.heap.size ≤ q) b := Nat.not_le.mpr hbl
  refine lv_aload_n hx hb dL_law_1080 rfl (lv_at hl 1 rfl) ?_
  obtain ⟨v, SX', SM', e1, e2, hR'⟩ := q_redo hR 
  refine lx_i B hP hS (rest := []) (n := 0) ⟨xw_mem 975 (by decide +kernel) rfl, xw_mem 98 (by decide +kernel) rfl, xw_mem 972 (by decide +kernel) rfl, by decide +kernel⟩ (xw_mem 973 (by decide +kernel) rfl) (xw_mem 974 (by decide +kernel) rfl) [] (c_X11_redo (z := z) hIx e1 H.size) (by decide) rfl rfl (Nat.le_of_ble_eq_true rfl) dL_law_1081 (fun H locs hP hS => ?_)
  refine lv_aload_n hx hb dL_law_1084 rfl (lv_at hl 2 rfl) ?_
  refine lm_i B hP hS (rest := [.int v]) (n := 0) ⟨xw_mem 1311 (by decide +kernel) rfl, xw_mem 110 (by decide +kernel) rfl, xw_mem 1308 (by decide +kernel) rfl, by decide +kernel⟩ (xw_mem 1309 (by decide +kernel) rfl) (xw_mem 1310 (by decide +kernel) rfl) [] (c_X12_redo (z := z) hIm e2 H.size) (by decide) rfl rfl (Nat.le_of_ble_eq_true rfl) dL_law_1085 (fun H locs hP hS => ?_)
  refine lv_icmp_eq (tgt := 1484) hx hb dL_law_1088 (by decide) (fun _ => ?_) (fun cq => absurd rfl cq)
  exact kk _ _ _ _ hR' hP hS
theorem dL_law_1093 : decode cL_law 1093 = .ok (.aload_n 1, 1) := by decide +kernel
theorem dL_law_1094 : decode cL_law 1094 = .ok (.aload_n 0, 1) := by decide +kernel
theorem dL_law_1095 : decode cL_law 1095 = .ok (.iload_n 3, 1) := by decide +kernel
theorem dL_law_1096 : decode cL_law 1096 = .ok (.iconst 1, 1) := by decide +kernel
theorem dL_law_1097 : decode cL_law 1097 = .ok (.iadd, 1) := by decide +kernel
theorem dL_law_1098 : decode cL_law 1098 = .ok (.iaload, 1) := by decide +kernel
theorem dL_law_1099 : decode cL_law 1099 = .ok (.invokevirtual 146, 3) := by decide +kernel
theorem dL_law_1102 : decode cL_law 1102 = .ok (.aload_n 2, 1) := by decide +kernel
theorem dL_law_1103 : decode cL_law 1103 = .ok (.aload_n 0, 1) := by decide +kernel
theorem dL_law_1104 : decode cL_law 1104 = .ok (.iload_n 3, 1) := by decide +kernel
theorem dL_law_1105 : decode cL_law 1105 = .ok (.iconst 1, 1) := by decide +kernel
theorem dL_law_1106 : decode cL_law 1106 = .ok (.iadd, 1) := by decide +kernel
theorem dL_law_1107 : decode cL_law 1107 = .ok (.iaload, 1) := by decide +kernel
theorem dL_law_1108 : decode cL_law 1108 = .ok (.invokevirtual 149, 3) := by decide +kernel
theorem dL_law_1111 : decode cL_law 1111 = .ok (.if_icmp .eq 373, 3) := by decide +kernel
set_option maxHeartbeats 4000000 in
set_option maxRecDepth 100000 in
/-- body -/
theorem lc_32 {p : Program} {l : Launch} {e : Env} {s : State} {m : MethodId} {below : List Frame} {meth : Method} {c : Code} {b L : Nat} {xs : Nat → Int32} {D : va_G} {cy : Nat → ClassId} {z a a' : Nat → Nat} {ls : Array Slot} {x3 : Int32} {Q : State → Prop} (B : lwB p s m meth c b L xs D cy z a a' ls x3) (kk : lwC p l e s m below meth c b D cy a a' ls Q 1484) : lwC p l e s m below meth c b D cy a a' ls Q 1093 := by
  intro SX SM H locs hRR hP hS
  obtain ⟨η, gn, hR⟩ := hRR
  obtain ⟨⟨hx, hb, hr, hml, hown, hts, hX, hbl, hlocks, hgv⟩, hK, hIx, hIm, hEx, hDD, hl, hj⟩ := id B
  have hts' : ∀ w ∈ xTB, w.before #[Value.ref b] s = true := fun w hw => hts w (List.mem_filter.mp hw).1
  have hbA : ¬ (fun q : Nat => s.heap.size ≤ q) b := Nat.not_le.mpr hbl
  refine lv_aload_n hx hb dL_law_1093 rfl (lv_at hl 1 rfl) ?_
  refine lw_ld hx hb hX hbl hbA hS hl rfl rfl (1 : Int32) (by decide) (hj _ (by decide)) dL_law_1094 dL_law_1095 dL_law_1096 dL_law_1097 dL_law_1098 ?_
  obtain ⟨v, SX', SM', e1, e2, hR'⟩ := q_body hR (xs (x3 + 1).toNatClampNeg)
  refine lx_i B hP hS (rest := []) (n := 1) ⟨xw_mem 983 (by decide +kernel) rfl, xw_mem 98 (by decide +kernel) rfl, xw_mem 980 (by decide +kernel) rfl, by decide +kernel⟩ (xw_mem 981 (by decide +kernel) rfl) (xw_mem 982 (by decide +kernel) rfl) [.int (xs (x3 + 1).toNatClampNeg)] (c_X11_body (z := z) hIx e1 H.size) (by decide) rfl rfl (Nat.le_of_ble_eq_true rfl) dL_law_1099 (fun H locs hP hS => ?_)
  refine lv_aload_n hx hb dL_law_1102 rfl (lv_at hl 2 rfl) ?_
  refine lw_ld hx hb hX hbl hbA hS hl rfl rfl (1 : Int32) (by decide) (hj _ (by decide)) dL_law_1103 dL_law_1104 dL_law_1105 dL_law_1106 dL_law_1107 ?_
  refine lm_i B hP hS (rest := [.int v]) (n := 1) ⟨xw_mem 1654 (by decide +kernel) rfl, xw_mem 110 (by decide +kernel) rfl, xw_mem 1651 (by decide +kernel) rfl, by decide +kernel⟩ (xw_mem 1652 (by decide +kernel) rfl) (xw_mem 1653 (by decide +kernel) rfl) [.int (xs (x3 + 1).toNatClampNeg)] (c_X12_body (z := z) hIm e2 H.size) (by decide) rfl rfl (Nat.le_of_ble_eq_true rfl) dL_law_1108 (fun H locs hP hS => ?_)
  refine lv_icmp_eq (tgt := 1484) hx hb dL_law_1111 (by decide) (fun _ => ?_) (fun cq => absurd rfl cq)
  exact kk _ _ _ _ hR' hP hS
theorem dL_law_1116 : decode cL_law 1116 = .ok (.aload_n 1, 1) := by decide +kernel
theorem dL_law_1117 : decode cL_law 1117 = .ok (.aload_n 0, 1) := by decide +kernel
theorem dL_law_1118 : decode cL_law 1118 = .ok (.iload_n 3, 1) := by decide +kernel
theorem dL_law_1119 : decode cL_law 1119 = .ok (.iconst 1, 1) := by decide +kernel
theorem dL_law_1120 : decode cL_law 1120 = .ok (.iadd, 1) := by decide +kernel
theorem dL_law_1121 : decode cL_law 1121 = .ok (.iaload, 1) := by decide +kernel
theorem dL_law_1122 : decode cL_law 1122 = .ok (.aload_n 0, 1) := by decide +kernel
theorem dL_law_1123 : decode cL_law 1123 = .ok (.iload_n 3, 1) := by decide +kernel
theorem dL_law_1124 : decode cL_law 1124 = .ok (.iconst 2, 1) := by decide +kernel
theorem dL_law_1125 : decode cL_law 1125 = .ok (.iadd, 1) := by decide +kernel
theorem dL_law_1126 : decode cL_law 1126 = .ok (.iaload, 1) := by decide +kernel
theorem dL_law_1127 : decode cL_law 1127 = .ok (.aload_n 0, 1) := by decide +kernel
theorem dL_law_1128 : decode cL_law 1128 = .ok (.iload_n 3, 1) := by decide +kernel
theorem dL_law_1129 : decode cL_law 1129 = .ok (.iconst 3, 1) := by decide +kernel
theorem dL_law_1130 : decode cL_law 1130 = .ok (.iadd, 1) := by decide +kernel
theorem dL_law_1131 : decode cL_law 1131 = .ok (.iaload, 1) := by decide +kernel
theorem dL_law_1132 : decode cL_law 1132 = .ok (.invokevirtual 150, 3) := by decide +kernel
theorem dL_law_1135 : decode cL_law 1135 = .ok (.aload_n 2, 1) := by decide +kernel
theorem dL_law_1136 : decode cL_law 1136 = .ok (.aload_n 0, 1) := by decide +kernel
theorem dL_law_1137 : decode cL_law 1137 = .ok (.iload_n 3, 1) := by decide +kernel
theorem dL_law_1138 : decode cL_law 1138 = .ok (.iconst 1, 1) := by decide +kernel
theorem dL_law_1139 : decode cL_law 1139 = .ok (.iadd, 1) := by decide +kernel
theorem dL_law_1140 : decode cL_law 1140 = .ok (.iaload, 1) := by decide +kernel
theorem dL_law_1141 : decode cL_law 1141 = .ok (.aload_n 0, 1) := by decide +kernel
theorem dL_law_1142 : decode cL_law 1142 = .ok (.iload_n 3, 1) := by decide +kernel
theorem dL_law_1143 : decode cL_law 1143 = .ok (.iconst 2, 1) := by decide +kernel
theorem dL_law_1144 : decode cL_law 1144 = .ok (.iadd, 1) := by decide +kernel
theorem dL_law_1145 : decode cL_law 1145 = .ok (.iaload, 1) := by decide +kernel
theorem dL_law_1146 : decode cL_law 1146 = .ok (.aload_n 0, 1) := by decide +kernel
theorem dL_law_1147 : decode cL_law 1147 = .ok (.iload_n 3, 1) := by decide +kernel
theorem dL_law_1148 : decode cL_law 1148 = .ok (.iconst 3, 1) := by decide +kernel
theorem dL_law_1149 : decode cL_law 1149 = .ok (.iadd, 1) := by decide +kernel
theorem dL_law_1150 : decode cL_law 1150 = .ok (.iaload, 1) := by decide +kernel
theorem dL_law_1151 : decode cL_law 1151 = .ok (.invokevirtual 153, 3) := by decide +kernel
theorem dL_law_1154 : decode cL_law 1154 = .ok (.if_icmp .eq 330, 3) := by decide +kernel
set_option maxHeartbeats 4000000 in
set_option maxRecDepth 100000 in
/-- act -/
theorem lc_33 {p : Program} {l : Launch} {e : Env} {s : State} {m : MethodId} {below : List Frame} {meth : Method} {c : Code} {b L : Nat} {xs : Nat → Int32} {D : va_G} {cy : Nat → ClassId} {z a a' : Nat → Nat} {ls : Array Slot} {x3 : Int32} {Q : State → Prop} (B : lwB p s m meth c b L xs D cy z a a' ls x3) (kk : lwC p l e s m below meth c b D cy a a' ls Q 1484) : lwC p l e s m below meth c b D cy a a' ls Q 1116 := by
  intro SX SM H locs hRR hP hS
  obtain ⟨η, gn, hR⟩ := hRR
  obtain ⟨⟨hx, hb, hr, hml, hown, hts, hX, hbl, hlocks, hgv⟩, hK, hIx, hIm, hEx, hDD, hl, hj⟩ := id B
  have hts' : ∀ w ∈ xTB, w.before #[Value.ref b] s = true := fun w hw => hts w (List.mem_filter.mp hw).1
  have hbA : ¬ (fun q : Nat => s.heap.size ≤ q) b := Nat.not_le.mpr hbl
  refine lv_aload_n hx hb dL_law_1116 rfl (lv_at hl 1 rfl) ?_
  refine lw_ld hx hb hX hbl hbA hS hl rfl rfl (1 : Int32) (by decide) (hj _ (by decide)) dL_law_1117 dL_law_1118 dL_law_1119 dL_law_1120 dL_law_1121 ?_
  refine lw_ld hx hb hX hbl hbA hS hl rfl rfl (2 : Int32) (by decide) (hj _ (by decide)) dL_law_1122 dL_law_1123 dL_law_1124 dL_law_1125 dL_law_1126 ?_
  refine lw_ld hx hb hX hbl hbA hS hl rfl rfl (3 : Int32) (by decide) (hj _ (by decide)) dL_law_1127 dL_law_1128 dL_law_1129 dL_law_1130 dL_law_1131 ?_
  obtain ⟨v, SX', SM', e1, e2, hR'⟩ := q_act hR (xs (x3 + 1).toNatClampNeg) (xs (x3 + 2).toNatClampNeg) (xs (x3 + 3).toNatClampNeg)
  refine lx_i B hP hS (rest := []) (n := 3) ⟨xw_mem 991 (by decide +kernel) rfl, xw_mem 98 (by decide +kernel) rfl, xw_mem 988 (by decide +kernel) rfl, by decide +kernel⟩ (xw_mem 989 (by decide +kernel) rfl) (xw_mem 990 (by decide +kernel) rfl) [.int (xs (x3 + 1).toNatClampNeg), .int (xs (x3 + 2).toNatClampNeg), .int (xs (x3 + 3).toNatClampNeg)] (c_X11_act (z := z) hIx e1 H.size) (by decide) rfl rfl (Nat.le_of_ble_eq_true rfl) dL_law_1132 (fun H locs hP hS => ?_)
  refine lv_aload_n hx hb dL_law_1135 rfl (lv_at hl 2 rfl) ?_
  refine lw_ld hx hb hX hbl hbA hS hl rfl rfl (1 : Int32) (by decide) (hj _ (by decide)) dL_law_1136 dL_law_1137 dL_law_1138 dL_law_1139 dL_law_1140 ?_
  refine lw_ld hx hb hX hbl hbA hS hl rfl rfl (2 : Int32) (by decide) (hj _ (by decide)) dL_law_1141 dL_law_1142 dL_law_1143 dL_law_1144 dL_law_1145 ?_
  refine lw_ld hx hb hX hbl hbA hS hl rfl rfl (3 : Int32) (by decide) (hj _ (by decide)) dL_law_1146 dL_law_1147 dL_law_1148 dL_law_1149 dL_law_1150 ?_
  refine lm_i B hP hS (rest := [.int v]) (n := 3) ⟨xw_mem 1658 (by decide +kernel) rfl, xw_mem 110 (by decide +kernel) rfl, xw_mem 1655 (by decide +kernel) rfl, by decide +kernel⟩ (xw_mem 1656 (by decide +kernel) rfl) (xw_mem 1657 (by decide +kernel) rfl) [.int (xs (x3 + 1).toNatClampNeg), .int (xs (x3 + 2).toNatClampNeg), .int (xs (x3 + 3).toNatClampNeg)] (c_X12_act (z := z) hIm e2 H.size) (by decide) rfl rfl (Nat.le_of_ble_eq_true rfl) dL_law_1151 (fun H locs hP hS => ?_)
  refine lv_icmp_eq (tgt := 1484) hx hb dL_law_1154 (by decide) (fun _ => ?_) (fun cq => absurd rfl cq)
  exact kk _ _ _ _ hR' hP hS
theorem dL_law_1159 : decode cL_law 1159 = .ok (.aload_n 1, 1) := by decide +kernel
theorem dL_law_1160 : decode cL_law 1160 = .ok (.aload_n 0, 1) := by decide +kernel
theorem dL_law_1161 : decode cL_law 1161 = .ok (.iload_n 3, 1) := by decide +kernel
theorem dL_law_1162 : decode cL_law 1162 = .ok (.iconst 1, 1) := by decide +kernel
theorem dL_law_1163 : decode cL_law 1163 = .ok (.iadd, 1) := by decide +kernel
theorem dL_law_1164 : decode cL_law 1164 = .ok (.iaload, 1) := by decide +kernel
theorem dL_law_1165 : decode cL_law 1165 = .ok (.invokevirtual 154, 3) := by decide +kernel
theorem dL_law_1168 : decode cL_law 1168 = .ok (.aload_n 2, 1) := by decide +kernel
theorem dL_law_1169 : decode cL_law 1169 = .ok (.aload_n 0, 1) := by decide +kernel
theorem dL_law_1170 : decode cL_law 1170 = .ok (.iload_n 3, 1) := by decide +kernel
theorem dL_law_1171 : decode cL_law 1171 = .ok (.iconst 1, 1) := by decide +kernel
theorem dL_law_1172 : decode cL_law 1172 = .ok (.iadd, 1) := by decide +kernel
theorem dL_law_1173 : decode cL_law 1173 = .ok (.iaload, 1) := by decide +kernel
theorem dL_law_1174 : decode cL_law 1174 = .ok (.invokevirtual 157, 3) := by decide +kernel
theorem dL_law_1177 : decode cL_law 1177 = .ok (.if_icmp .eq 307, 3) := by decide +kernel
set_option maxHeartbeats 4000000 in
set_option maxRecDepth 100000 in
/-- trace -/
theorem lc_34 {p : Program} {l : Launch} {e : Env} {s : State} {m : MethodId} {below : List Frame} {meth : Method} {c : Code} {b L : Nat} {xs : Nat → Int32} {D : va_G} {cy : Nat → ClassId} {z a a' : Nat → Nat} {ls : Array Slot} {x3 : Int32} {Q : State → Prop} (B : lwB p s m meth c b L xs D cy z a a' ls x3) (kk : lwC p l e s m below meth c b D cy a a' ls Q 1484) : lwC p l e s m below meth c b D cy a a' ls Q 1159 := by
  intro SX SM H locs hRR hP hS
  obtain ⟨η, gn, hR⟩ := hRR
  obtain ⟨⟨hx, hb, hr, hml, hown, hts, hX, hbl, hlocks, hgv⟩, hK, hIx, hIm, hEx, hDD, hl, hj⟩ := id B
  have hts' : ∀ w ∈ xTB, w.before #[Value.ref b] s = true := fun w hw => hts w (List.mem_filter.mp hw).1
  have hbA : ¬ (fun q : Nat => s.heap.size ≤ q) b := Nat.not_le.mpr hbl
  refine lv_aload_n hx hb dL_law_1159 rfl (lv_at hl 1 rfl) ?_
  refine lw_ld hx hb hX hbl hbA hS hl rfl rfl (1 : Int32) (by decide) (hj _ (by decide)) dL_law_1160 dL_law_1161 dL_law_1162 dL_law_1163 dL_law_1164 ?_
  obtain ⟨v, SX', SM', e1, e2, hR'⟩ := q_trace hR (xs (x3 + 1).toNatClampNeg)
  refine lx_i B hP hS (rest := []) (n := 1) ⟨xw_mem 1015 (by decide +kernel) rfl, xw_mem 98 (by decide +kernel) rfl, xw_mem 1012 (by decide +kernel) rfl, by decide +kernel⟩ (xw_mem 1013 (by decide +kernel) rfl) (xw_mem 1014 (by decide +kernel) rfl) [.int (xs (x3 + 1).toNatClampNeg)] (c_X11_trace (z := z) hIx e1 H.size) (by decide) rfl rfl (Nat.le_of_ble_eq_true rfl) dL_law_1165 (fun H locs hP hS => ?_)
  refine lv_aload_n hx hb dL_law_1168 rfl (lv_at hl 2 rfl) ?_
  refine lw_ld hx hb hX hbl hbA hS hl rfl rfl (1 : Int32) (by decide) (hj _ (by decide)) dL_law_1169 dL_law_1170 dL_law_1171 dL_law_1172 dL_law_1173 ?_
  refine lm_i B hP hS (rest := [.int v]) (n := 1) ⟨xw_mem 1650 (by decide +kernel) rfl, xw_mem 110 (by decide +kernel) rfl, xw_mem 1647 (by decide +kernel) rfl, by decide +kernel⟩ (xw_mem 1648 (by decide +kernel) rfl) (xw_mem 1649 (by decide +kernel) rfl) [.int (xs (x3 + 1).toNatClampNeg)] (c_X12_trace (z := z) hIm e2 H.size) (by decide) rfl rfl (Nat.le_of_ble_eq_true rfl) dL_law_1174 (fun H locs hP hS => ?_)
  refine lv_icmp_eq (tgt := 1484) hx hb dL_law_1177 (by decide) (fun _ => ?_) (fun cq => absurd rfl cq)
  exact kk _ _ _ _ hR' hP hS
theorem dL_law_1182 : decode cL_law 1182 = .ok (.aload_n 1, 1) := by decide +kernel
theorem dL_law_1183 : decode cL_law 1183 = .ok (.aload_n 0, 1) := by decide +kernel
theorem dL_law_1184 : decode cL_law 1184 = .ok (.iload_n 3, 1) := by decide +kernel
theorem dL_law_1185 : decode cL_law 1185 = .ok (.iconst 1, 1) := by decide +kernel
theorem dL_law_1186 : decode cL_law 1186 = .ok (.iadd, 1) := by decide +kernel
theorem dL_law_1187 : decode cL_law 1187 = .ok (.iaload, 1) := by decide +kernel
theorem dL_law_1188 : decode cL_law 1188 = .ok (.aload_n 0, 1) := by decide +kernel
theorem dL_law_1189 : decode cL_law 1189 = .ok (.iload_n 3, 1) := by decide +kernel
theorem dL_law_1190 : decode cL_law 1190 = .ok (.iconst 2, 1) := by decide +kernel
theorem dL_law_1191 : decode cL_law 1191 = .ok (.iadd, 1) := by decide +kernel
theorem dL_law_1192 : decode cL_law 1192 = .ok (.iaload, 1) := by decide +kernel
theorem dL_law_1193 : decode cL_law 1193 = .ok (.invokevirtual 158, 3) := by decide +kernel
theorem dL_law_1196 : decode cL_law 1196 = .ok (.aload_n 2, 1) := by decide +kernel
theorem dL_law_1197 : decode cL_law 1197 = .ok (.aload_n 0, 1) := by decide +kernel
theorem dL_law_1198 : decode cL_law 1198 = .ok (.iload_n 3, 1) := by decide +kernel
theorem dL_law_1199 : decode cL_law 1199 = .ok (.iconst 1, 1) := by decide +kernel
theorem dL_law_1200 : decode cL_law 1200 = .ok (.iadd, 1) := by decide +kernel
theorem dL_law_1201 : decode cL_law 1201 = .ok (.iaload, 1) := by decide +kernel
theorem dL_law_1202 : decode cL_law 1202 = .ok (.aload_n 0, 1) := by decide +kernel
theorem dL_law_1203 : decode cL_law 1203 = .ok (.iload_n 3, 1) := by decide +kernel
theorem dL_law_1204 : decode cL_law 1204 = .ok (.iconst 2, 1) := by decide +kernel
theorem dL_law_1205 : decode cL_law 1205 = .ok (.iadd, 1) := by decide +kernel
theorem dL_law_1206 : decode cL_law 1206 = .ok (.iaload, 1) := by decide +kernel
theorem dL_law_1207 : decode cL_law 1207 = .ok (.invokevirtual 161, 3) := by decide +kernel
theorem dL_law_1210 : decode cL_law 1210 = .ok (.if_icmp .eq 274, 3) := by decide +kernel
set_option maxHeartbeats 4000000 in
set_option maxRecDepth 100000 in
/-- keep -/
theorem lc_35 {p : Program} {l : Launch} {e : Env} {s : State} {m : MethodId} {below : List Frame} {meth : Method} {c : Code} {b L : Nat} {xs : Nat → Int32} {D : va_G} {cy : Nat → ClassId} {z a a' : Nat → Nat} {ls : Array Slot} {x3 : Int32} {Q : State → Prop} (B : lwB p s m meth c b L xs D cy z a a' ls x3) (kk : lwC p l e s m below meth c b D cy a a' ls Q 1484) : lwC p l e s m below meth c b D cy a a' ls Q 1182 := by
  intro SX SM H locs hRR hP hS
  obtain ⟨η, gn, hR⟩ := hRR
  obtain ⟨⟨hx, hb, hr, hml, hown, hts, hX, hbl, hlocks, hgv⟩, hK, hIx, hIm, hEx, hDD, hl, hj⟩ := id B
  have hts' : ∀ w ∈ xTB, w.before #[Value.ref b] s = true := fun w hw => hts w (List.mem_filter.mp hw).1
  have hbA : ¬ (fun q : Nat => s.heap.size ≤ q) b := Nat.not_le.mpr hbl
  refine lv_aload_n hx hb dL_law_1182 rfl (lv_at hl 1 rfl) ?_
  refine lw_ld hx hb hX hbl hbA hS hl rfl rfl (1 : Int32) (by decide) (hj _ (by decide)) dL_law_1183 dL_law_1184 dL_law_1185 dL_law_1186 dL_law_1187 ?_
  refine lw_ld hx hb hX hbl hbA hS hl rfl rfl (2 : Int32) (by decide) (hj _ (by decide)) dL_law_1188 dL_law_1189 dL_law_1190 dL_law_1191 dL_law_1192 ?_
  obtain ⟨v, SX', SM', e1, e2, hR'⟩ := q_keep hR (xs (x3 + 1).toNatClampNeg) (xs (x3 + 2).toNatClampNeg)
  refine lx_i B hP hS (rest := []) (n := 2) ⟨xw_mem 1020 (by decide +kernel) rfl, xw_mem 98 (by decide +kernel) rfl, xw_mem 1017 (by decide +kernel) rfl, by decide +kernel⟩ (xw_mem 1018 (by decide +kernel) rfl) (xw_mem 1019 (by decide +kernel) rfl) [.int (xs (x3 + 1).toNatClampNeg), .int (xs (x3 + 2).toNatClampNeg)] (c_X11_keep (z := z) hIx e1 H.size) (by decide) rfl rfl (Nat.le_of_ble_eq_true rfl) dL_law_1193 (fun H locs hP hS => ?_)
  refine lv_aload_n hx hb dL_law_1196 rfl (lv_at hl 2 rfl) ?_
  refine lw_ld hx hb hX hbl hbA hS hl rfl rfl (1 : Int32) (by decide) (hj _ (by decide)) dL_law_1197 dL_law_1198 dL_law_1199 dL_law_1200 dL_law_1201 ?_
  refine lw_ld hx hb hX hbl hbA hS hl rfl rfl (2 : Int32) (by decide) (hj _ (by decide)) dL_law_1202 dL_law_1203 dL_law_1204 dL_law_1205 dL_law_1206 ?_
  refine lm_i B hP hS (rest := [.int v]) (n := 2) ⟨xw_mem 1729 (by decide +kernel) rfl, xw_mem 110 (by decide +kernel) rfl, xw_mem 1726 (by decide +kernel) rfl, by decide +kernel⟩ (xw_mem 1727 (by decide +kernel) rfl) (xw_mem 1728 (by decide +kernel) rfl) [.int (xs (x3 + 1).toNatClampNeg), .int (xs (x3 + 2).toNatClampNeg)] (c_X12_keep (z := z) hIm e2 H.size) (by decide) rfl rfl (Nat.le_of_ble_eq_true rfl) dL_law_1207 (fun H locs hP hS => ?_)
  refine lv_icmp_eq (tgt := 1484) hx hb dL_law_1210 (by decide) (fun _ => ?_) (fun cq => absurd rfl cq)
  exact kk _ _ _ _ hR' hP hS
