/-! part at: the law's cases 36 to 41 -/
theorem dL_law_1215 : decode cL_law 1215 = .ok (.aload_n 1, 1) := by decide +kernel
theorem dL_law_1216 : decode cL_law 1216 = .ok (.aload_n 0, 1) := by decide +kernel
theorem dL_law_1217 : decode cL_law 1217 = .ok (.iload_n 3, 1) := by decide +kernel
theorem dL_law_1218 : decode cL_law 1218 = .ok (.iconst 1, 1) := by decide +kernel
theorem dL_law_1219 : decode cL_law 1219 = .ok (.iadd, 1) := by decide +kernel
theorem dL_law_1220 : decode cL_law 1220 = .ok (.iaload, 1) := by decide +kernel
theorem dL_law_1221 : decode cL_law 1221 = .ok (.aload_n 0, 1) := by decide +kernel
theorem dL_law_1222 : decode cL_law 1222 = .ok (.iload_n 3, 1) := by decide +kernel
theorem dL_law_1223 : decode cL_law 1223 = .ok (.iconst 2, 1) := by decide +kernel
theorem dL_law_1224 : decode cL_law 1224 = .ok (.iadd, 1) := by decide +kernel
theorem dL_law_1225 : decode cL_law 1225 = .ok (.iaload, 1) := by decide +kernel
theorem dL_law_1226 : decode cL_law 1226 = .ok (.aload_n 0, 1) := by decide +kernel
theorem dL_law_1227 : decode cL_law 1227 = .ok (.iload_n 3, 1) := by decide +kernel
theorem dL_law_1228 : decode cL_law 1228 = .ok (.iconst 3, 1) := by decide +kernel
theorem dL_law_1229 : decode cL_law 1229 = .ok (.iadd, 1) := by decide +kernel
theorem dL_law_1230 : decode cL_law 1230 = .ok (.iaload, 1) := by decide +kernel
theorem dL_law_1231 : decode cL_law 1231 = .ok (.invokevirtual 162, 3) := by decide +kernel
theorem dL_law_1234 : decode cL_law 1234 = .ok (.aload_n 2, 1) := by decide +kernel
theorem dL_law_1235 : decode cL_law 1235 = .ok (.aload_n 0, 1) := by decide +kernel
theorem dL_law_1236 : decode cL_law 1236 = .ok (.iload_n 3, 1) := by decide +kernel
theorem dL_law_1237 : decode cL_law 1237 = .ok (.iconst 1, 1) := by decide +kernel
theorem dL_law_1238 : decode cL_law 1238 = .ok (.iadd, 1) := by decide +kernel
theorem dL_law_1239 : decode cL_law 1239 = .ok (.iaload, 1) := by decide +kernel
theorem dL_law_1240 : decode cL_law 1240 = .ok (.aload_n 0, 1) := by decide +kernel
theorem dL_law_1241 : decode cL_law 1241 = .ok (.iload_n 3, 1) := by decide +kernel
theorem dL_law_1242 : decode cL_law 1242 = .ok (.iconst 2, 1) := by decide +kernel
theorem dL_law_1243 : decode cL_law 1243 = .ok (.iadd, 1) := by decide +kernel
theorem dL_law_1244 : decode cL_law 1244 = .ok (.iaload, 1) := by decide +kernel
theorem dL_law_1245 : decode cL_law 1245 = .ok (.aload_n 0, 1) := by decide +kernel
theorem dL_law_1246 : decode cL_law 1246 = .ok (.iload_n 3, 1) := by decide +kernel
theorem dL_law_1247 : decode cL_law 1247 = .ok (.iconst 3, 1) := by decide +kernel
theorem dL_law_1248 : decode cL_law 1248 = .ok (.iadd, 1) := by decide +kernel
theorem dL_law_1249 : decode cL_law 1249 = .ok (.iaload, 1) := by decide +kernel
theorem dL_law_1250 : decode cL_law 1250 = .ok (.invokevirtual 165, 3) := by decide +kernel
theorem dL_law_1253 : decode cL_law 1253 = .ok (.if_icmp .eq 231, 3) := by decide +kernel
set_option maxHeartbeats 4000000 in
set_option maxRecDepth 100000 in
/-- row -/
theorem lc_36 {p : Program} {l : Launch} {e : Env} {s : State} {m : MethodId} {below : List Frame} {meth : Method} {c : Code} {b L : Nat} {xs : Nat → Int32} {D : va_G} {cy : Nat → ClassId} {z a a' : Nat → Nat} {ls : Array Slot} {x3 : Int32} {Q : State → Prop} (B : lwB p s m meth c b L xs D cy z a a' ls x3) (kk : lwC p l e s m below meth c b D cy a a' ls Q 1484) : lwC p l e s m below meth c b D cy a a' ls Q 1215 := by
  intro SX SM H locs hRR hP hS
  obtain ⟨η, gn, hR⟩ := hRR
  obtain ⟨⟨hx, hb, hr, hml, hown, hts, hX, hbl, hlocks, hgv⟩, hK, hIx, hIm, hEx, hDD, hl, hj⟩ := id B
  have hts' : ∀ w ∈ xTB, w.before #[Value.ref b] s = true := fun w hw => hts w (List.mem_filter.mp hw).1
  have hbA : ¬ (fun q : Nat => s.heap.size ≤ q) b := Nat.not_le.mpr hbl
  refine lv_aload_n hx hb dL_law_1215 rfl (lv_at hl 1 rfl) ?_
  refine lw_ld hx hb hX hbl hbA hS hl rfl rfl (1 : Int32) (by decide) (hj _ (by decide)) dL_law_1216 dL_law_1217 dL_law_1218 dL_law_1219 dL_law_1220 ?_
  refine lw_ld hx hb hX hbl hbA hS hl rfl rfl (2 : Int32) (by decide) (hj _ (by decide)) dL_law_1221 dL_law_1222 dL_law_1223 dL_law_1224 dL_law_1225 ?_
  refine lw_ld hx hb hX hbl hbA hS hl rfl rfl (3 : Int32) (by decide) (hj _ (by decide)) dL_law_1226 dL_law_1227 dL_law_1228 dL_law_1229 dL_law_1230 ?_
  obtain ⟨v, SX', SM', e1, e2, hR'⟩ := q_row hR (xs (x3 + 1).toNatClampNeg) (xs (x3 + 2).toNatClampNeg) (xs (x3 + 3).toNatClampNeg)
  refine lx_i B hP hS (rest := []) (n := 3) ⟨xw_mem 1032 (by decide +kernel) rfl, xw_mem 98 (by decide +kernel) rfl, xw_mem 1029 (by decide +kernel) rfl, by decide +kernel⟩ (xw_mem 1030 (by decide +kernel) rfl) (xw_mem 1031 (by decide +kernel) rfl) [.int (xs (x3 + 1).toNatClampNeg), .int (xs (x3 + 2).toNatClampNeg), .int (xs (x3 + 3).toNatClampNeg)] (c_X11_row (z := z) hIx e1 H.size) (by decide) rfl rfl (Nat.le_of_ble_eq_true rfl) dL_law_1231 (fun H locs hP hS => ?_)
  refine lv_aload_n hx hb dL_law_1234 rfl (lv_at hl 2 rfl) ?_
  refine lw_ld hx hb hX hbl hbA hS hl rfl rfl (1 : Int32) (by decide) (hj _ (by decide)) dL_law_1235 dL_law_1236 dL_law_1237 dL_law_1238 dL_law_1239 ?_
  refine lw_ld hx hb hX hbl hbA hS hl rfl rfl (2 : Int32) (by decide) (hj _ (by decide)) dL_law_1240 dL_law_1241 dL_law_1242 dL_law_1243 dL_law_1244 ?_
  refine lw_ld hx hb hX hbl hbA hS hl rfl rfl (3 : Int32) (by decide) (hj _ (by decide)) dL_law_1245 dL_law_1246 dL_law_1247 dL_law_1248 dL_law_1249 ?_
  refine lm_i B hP hS (rest := [.int v]) (n := 3) ⟨xw_mem 1733 (by decide +kernel) rfl, xw_mem 110 (by decide +kernel) rfl, xw_mem 1730 (by decide +kernel) rfl, by decide +kernel⟩ (xw_mem 1731 (by decide +kernel) rfl) (xw_mem 1732 (by decide +kernel) rfl) [.int (xs (x3 + 1).toNatClampNeg), .int (xs (x3 + 2).toNatClampNeg), .int (xs (x3 + 3).toNatClampNeg)] (c_X12_row (z := z) hIm e2 H.size) (by decide) rfl rfl (Nat.le_of_ble_eq_true rfl) dL_law_1250 (fun H locs hP hS => ?_)
  refine lv_icmp_eq (tgt := 1484) hx hb dL_law_1253 (by decide) (fun _ => ?_) (fun cq => absurd rfl cq)
  exact kk _ _ _ _ hR' hP hS
theorem dL_law_1258 : decode cL_law 1258 = .ok (.aload_n 1, 1) := by decide +kernel
theorem dL_law_1259 : decode cL_law 1259 = .ok (.aload_n 0, 1) := by decide +kernel
theorem dL_law_1260 : decode cL_law 1260 = .ok (.iload_n 3, 1) := by decide +kernel
theorem dL_law_1261 : decode cL_law 1261 = .ok (.iconst 1, 1) := by decide +kernel
theorem dL_law_1262 : decode cL_law 1262 = .ok (.iadd, 1) := by decide +kernel
theorem dL_law_1263 : decode cL_law 1263 = .ok (.iaload, 1) := by decide +kernel
theorem dL_law_1264 : decode cL_law 1264 = .ok (.aload_n 0, 1) := by decide +kernel
theorem dL_law_1265 : decode cL_law 1265 = .ok (.iload_n 3, 1) := by decide +kernel
theorem dL_law_1266 : decode cL_law 1266 = .ok (.iconst 2, 1) := by decide +kernel
theorem dL_law_1267 : decode cL_law 1267 = .ok (.iadd, 1) := by decide +kernel
theorem dL_law_1268 : decode cL_law 1268 = .ok (.iaload, 1) := by decide +kernel
theorem dL_law_1269 : decode cL_law 1269 = .ok (.aload_n 0, 1) := by decide +kernel
theorem dL_law_1270 : decode cL_law 1270 = .ok (.iload_n 3, 1) := by decide +kernel
theorem dL_law_1271 : decode cL_law 1271 = .ok (.iconst 3, 1) := by decide +kernel
theorem dL_law_1272 : decode cL_law 1272 = .ok (.iadd, 1) := by decide +kernel
theorem dL_law_1273 : decode cL_law 1273 = .ok (.iaload, 1) := by decide +kernel
theorem dL_law_1274 : decode cL_law 1274 = .ok (.i2l, 1) := by decide +kernel
theorem dL_law_1275 : decode cL_law 1275 = .ok (.bipush 32, 2) := by decide +kernel
theorem dL_law_1277 : decode cL_law 1277 = .ok (.lshl, 1) := by decide +kernel
theorem dL_law_1278 : decode cL_law 1278 = .ok (.aload_n 0, 1) := by decide +kernel
theorem dL_law_1279 : decode cL_law 1279 = .ok (.iload_n 3, 1) := by decide +kernel
theorem dL_law_1280 : decode cL_law 1280 = .ok (.iconst 4, 1) := by decide +kernel
theorem dL_law_1281 : decode cL_law 1281 = .ok (.iadd, 1) := by decide +kernel
theorem dL_law_1282 : decode cL_law 1282 = .ok (.iaload, 1) := by decide +kernel
theorem dL_law_1283 : decode cL_law 1283 = .ok (.i2l, 1) := by decide +kernel
theorem dL_law_1284 : decode cL_law 1284 = .ok (.ldc2_w 166, 3) := by decide +kernel
theorem dL_law_1287 : decode cL_law 1287 = .ok (.land, 1) := by decide +kernel
theorem dL_law_1288 : decode cL_law 1288 = .ok (.lor, 1) := by decide +kernel
theorem dL_law_1289 : decode cL_law 1289 = .ok (.invokevirtual 168, 3) := by decide +kernel
theorem dL_law_1292 : decode cL_law 1292 = .ok (.aload_n 2, 1) := by decide +kernel
theorem dL_law_1293 : decode cL_law 1293 = .ok (.aload_n 0, 1) := by decide +kernel
theorem dL_law_1294 : decode cL_law 1294 = .ok (.iload_n 3, 1) := by decide +kernel
theorem dL_law_1295 : decode cL_law 1295 = .ok (.iconst 1, 1) := by decide +kernel
theorem dL_law_1296 : decode cL_law 1296 = .ok (.iadd, 1) := by decide +kernel
theorem dL_law_1297 : decode cL_law 1297 = .ok (.iaload, 1) := by decide +kernel
theorem dL_law_1298 : decode cL_law 1298 = .ok (.aload_n 0, 1) := by decide +kernel
theorem dL_law_1299 : decode cL_law 1299 = .ok (.iload_n 3, 1) := by decide +kernel
theorem dL_law_1300 : decode cL_law 1300 = .ok (.iconst 2, 1) := by decide +kernel
theorem dL_law_1301 : decode cL_law 1301 = .ok (.iadd, 1) := by decide +kernel
theorem dL_law_1302 : decode cL_law 1302 = .ok (.iaload, 1) := by decide +kernel
theorem dL_law_1303 : decode cL_law 1303 = .ok (.aload_n 0, 1) := by decide +kernel
theorem dL_law_1304 : decode cL_law 1304 = .ok (.iload_n 3, 1) := by decide +kernel
theorem dL_law_1305 : decode cL_law 1305 = .ok (.iconst 3, 1) := by decide +kernel
theorem dL_law_1306 : decode cL_law 1306 = .ok (.iadd, 1) := by decide +kernel
theorem dL_law_1307 : decode cL_law 1307 = .ok (.iaload, 1) := by decide +kernel
theorem dL_law_1308 : decode cL_law 1308 = .ok (.i2l, 1) := by decide +kernel
theorem dL_law_1309 : decode cL_law 1309 = .ok (.bipush 32, 2) := by decide +kernel
theorem dL_law_1311 : decode cL_law 1311 = .ok (.lshl, 1) := by decide +kernel
theorem dL_law_1312 : decode cL_law 1312 = .ok (.aload_n 0, 1) := by decide +kernel
theorem dL_law_1313 : decode cL_law 1313 = .ok (.iload_n 3, 1) := by decide +kernel
theorem dL_law_1314 : decode cL_law 1314 = .ok (.iconst 4, 1) := by decide +kernel
theorem dL_law_1315 : decode cL_law 1315 = .ok (.iadd, 1) := by decide +kernel
theorem dL_law_1316 : decode cL_law 1316 = .ok (.iaload, 1) := by decide +kernel
theorem dL_law_1317 : decode cL_law 1317 = .ok (.i2l, 1) := by decide +kernel
theorem dL_law_1318 : decode cL_law 1318 = .ok (.ldc2_w 166, 3) := by decide +kernel
theorem dL_law_1321 : decode cL_law 1321 = .ok (.land, 1) := by decide +kernel
theorem dL_law_1322 : decode cL_law 1322 = .ok (.lor, 1) := by decide +kernel
theorem dL_law_1323 : decode cL_law 1323 = .ok (.invokevirtual 172, 3) := by decide +kernel
theorem dL_law_1326 : decode cL_law 1326 = .ok (.if_icmp .eq 158, 3) := by decide +kernel
set_option maxHeartbeats 4000000 in
set_option maxRecDepth 100000 in
/-- put -/
theorem lc_37 {p : Program} {l : Launch} {e : Env} {s : State} {m : MethodId} {below : List Frame} {meth : Method} {c : Code} {b L : Nat} {xs : Nat → Int32} {D : va_G} {cy : Nat → ClassId} {z a a' : Nat → Nat} {ls : Array Slot} {x3 : Int32} {Q : State → Prop} (B : lwB p s m meth c b L xs D cy z a a' ls x3) (kk : lwC p l e s m below meth c b D cy a a' ls Q 1484) : lwC p l e s m below meth c b D cy a a' ls Q 1258 := by
  intro SX SM H locs hRR hP hS
  obtain ⟨η, gn, hR⟩ := hRR
  obtain ⟨⟨hx, hb, hr, hml, hown, hts, hX, hbl, hlocks, hgv⟩, hK, hIx, hIm, hEx, hDD, hl, hj⟩ := id B
  have hts' : ∀ w ∈ xTB, w.before #[Value.ref b] s = true := fun w hw => hts w (List.mem_filter.mp hw).1
  have hbA : ¬ (fun q : Nat => s.heap.size ≤ q) b := Nat.not_le.mpr hbl
  refine lv_aload_n hx hb dL_law_1258 rfl (lv_at hl 1 rfl) ?_
  refine lw_ld hx hb hX hbl hbA hS hl rfl rfl (1 : Int32) (by decide) (hj _ (by decide)) dL_law_1259 dL_law_1260 dL_law_1261 dL_law_1262 dL_law_1263 ?_
  refine lw_ld hx hb hX hbl hbA hS hl rfl rfl (2 : Int32) (by decide) (hj _ (by decide)) dL_law_1264 dL_law_1265 dL_law_1266 dL_law_1267 dL_law_1268 ?_
  refine lw_ld hx hb hX hbl hbA hS hl rfl rfl (3 : Int32) (by decide) (hj _ (by decide)) dL_law_1269 dL_law_1270 dL_law_1271 dL_law_1272 dL_law_1273 ?_
  refine lv_i2l (v := (xs (x3 + 3).toNatClampNeg).toInt64) hx hb dL_law_1274 rfl ?_
  refine lv_bipush (v := (32 : Int32)) hx hb dL_law_1275 (by decide) ?_
  refine lv_lshl (v := ((xs (x3 + 3).toNatClampNeg).toInt64 <<< ((32 : Int32).toInt64 &&& 63))) hx hb dL_law_1277 rfl ?_
  refine lw_ld hx hb hX hbl hbA hS hl rfl rfl (4 : Int32) (by decide) (hj _ (by decide)) dL_law_1278 dL_law_1279 dL_law_1280 dL_law_1281 dL_law_1282 ?_
  refine lv_i2l (v := (xs (x3 + 4).toNatClampNeg).toInt64) hx hb dL_law_1283 rfl ?_
  refine lv_ldc2 (v := (4294967295 : Int64)) hx hb (own := RL) hown (hts' _ (xw_mem 1754 (by decide +kernel) rfl)) dL_law_1284 ?_
  refine lv_land hx hb dL_law_1287 ?_
  refine lv_lor hx hb dL_law_1288 ?_
  obtain ⟨v, SX', SM', e1, e2, hR'⟩ := q_put hR (xs (x3 + 1).toNatClampNeg) (xs (x3 + 2).toNatClampNeg) (((xs (x3 + 3).toNatClampNeg).toInt64 <<< ((32 : Int32).toInt64 &&& 63)) ||| ((xs (x3 + 4).toNatClampNeg).toInt64 &&& (4294967295 : Int64)))
  refine lx_i B hP hS (rest := []) (n := 3) ⟨xw_mem 1040 (by decide +kernel) rfl, xw_mem 98 (by decide +kernel) rfl, xw_mem 1037 (by decide +kernel) rfl, by decide +kernel⟩ (xw_mem 1038 (by decide +kernel) rfl) (xw_mem 1039 (by decide +kernel) rfl) [.int (xs (x3 + 1).toNatClampNeg), .int (xs (x3 + 2).toNatClampNeg), .long (((xs (x3 + 3).toNatClampNeg).toInt64 <<< ((32 : Int32).toInt64 &&& 63)) ||| ((xs (x3 + 4).toNatClampNeg).toInt64 &&& (4294967295 : Int64)))] (c_X11_put (z := z) hIx e1 H.size) (by decide) rfl rfl (Nat.le_of_ble_eq_true rfl) dL_law_1289 (fun H locs hP hS => ?_)
  refine lv_aload_n hx hb dL_law_1292 rfl (lv_at hl 2 rfl) ?_
  refine lw_ld hx hb hX hbl hbA hS hl rfl rfl (1 : Int32) (by decide) (hj _ (by decide)) dL_law_1293 dL_law_1294 dL_law_1295 dL_law_1296 dL_law_1297 ?_
  refine lw_ld hx hb hX hbl hbA hS hl rfl rfl (2 : Int32) (by decide) (hj _ (by decide)) dL_law_1298 dL_law_1299 dL_law_1300 dL_law_1301 dL_law_1302 ?_
  refine lw_ld hx hb hX hbl hbA hS hl rfl rfl (3 : Int32) (by decide) (hj _ (by decide)) dL_law_1303 dL_law_1304 dL_law_1305 dL_law_1306 dL_law_1307 ?_
  refine lv_i2l (v := (xs (x3 + 3).toNatClampNeg).toInt64) hx hb dL_law_1308 rfl ?_
  refine lv_bipush (v := (32 : Int32)) hx hb dL_law_1309 (by decide) ?_
  refine lv_lshl (v := ((xs (x3 + 3).toNatClampNeg).toInt64 <<< ((32 : Int32).toInt64 &&& 63))) hx hb dL_law_1311 rfl ?_
  refine lw_ld hx hb hX hbl hbA hS hl rfl rfl (4 : Int32) (by decide) (hj _ (by decide)) dL_law_1312 dL_law_1313 dL_law_1314 dL_law_1315 dL_law_1316 ?_
  refine lv_i2l (v := (xs (x3 + 4).toNatClampNeg).toInt64) hx hb dL_law_1317 rfl ?_
  refine lv_ldc2 (v := (4294967295 : Int64)) hx hb (own := RL) hown (hts' _ (xw_mem 1754 (by decide +kernel) rfl)) dL_law_1318 ?_
  refine lv_land hx hb dL_law_1321 ?_
  refine lv_lor hx hb dL_law_1322 ?_
  refine lm_i B hP hS (rest := [.int v]) (n := 3) ⟨xw_mem 1737 (by decide +kernel) rfl, xw_mem 110 (by decide +kernel) rfl, xw_mem 1734 (by decide +kernel) rfl, by decide +kernel⟩ (xw_mem 1735 (by decide +kernel) rfl) (xw_mem 1736 (by decide +kernel) rfl) [.int (xs (x3 + 1).toNatClampNeg), .int (xs (x3 + 2).toNatClampNeg), .long (((xs (x3 + 3).toNatClampNeg).toInt64 <<< ((32 : Int32).toInt64 &&& 63)) ||| ((xs (x3 + 4).toNatClampNeg).toInt64 &&& (4294967295 : Int64)))] (c_X12_put (z := z) hIm e2 H.size) (by decide) rfl rfl (Nat.le_of_ble_eq_true rfl) dL_law_1323 (fun H locs hP hS => ?_)
  refine lv_icmp_eq (tgt := 1484) hx hb dL_law_1326 (by decide) (fun _ => ?_) (fun cq => absurd rfl cq)
  exact kk _ _ _ _ hR' hP hS
theorem dL_law_1331 : decode cL_law 1331 = .ok (.aload_n 1, 1) := by decide +kernel
theorem dL_law_1332 : decode cL_law 1332 = .ok (.aload_n 0, 1) := by decide +kernel
theorem dL_law_1333 : decode cL_law 1333 = .ok (.iload_n 3, 1) := by decide +kernel
theorem dL_law_1334 : decode cL_law 1334 = .ok (.iconst 1, 1) := by decide +kernel
theorem dL_law_1335 : decode cL_law 1335 = .ok (.iadd, 1) := by decide +kernel
theorem dL_law_1336 : decode cL_law 1336 = .ok (.iaload, 1) := by decide +kernel
theorem dL_law_1337 : decode cL_law 1337 = .ok (.aload_n 0, 1) := by decide +kernel
theorem dL_law_1338 : decode cL_law 1338 = .ok (.iload_n 3, 1) := by decide +kernel
theorem dL_law_1339 : decode cL_law 1339 = .ok (.iconst 2, 1) := by decide +kernel
theorem dL_law_1340 : decode cL_law 1340 = .ok (.iadd, 1) := by decide +kernel
theorem dL_law_1341 : decode cL_law 1341 = .ok (.iaload, 1) := by decide +kernel
theorem dL_law_1342 : decode cL_law 1342 = .ok (.invokevirtual 173, 3) := by decide +kernel
theorem dL_law_1345 : decode cL_law 1345 = .ok (.aload_n 2, 1) := by decide +kernel
theorem dL_law_1346 : decode cL_law 1346 = .ok (.aload_n 0, 1) := by decide +kernel
theorem dL_law_1347 : decode cL_law 1347 = .ok (.iload_n 3, 1) := by decide +kernel
theorem dL_law_1348 : decode cL_law 1348 = .ok (.iconst 1, 1) := by decide +kernel
theorem dL_law_1349 : decode cL_law 1349 = .ok (.iadd, 1) := by decide +kernel
theorem dL_law_1350 : decode cL_law 1350 = .ok (.iaload, 1) := by decide +kernel
theorem dL_law_1351 : decode cL_law 1351 = .ok (.aload_n 0, 1) := by decide +kernel
theorem dL_law_1352 : decode cL_law 1352 = .ok (.iload_n 3, 1) := by decide +kernel
theorem dL_law_1353 : decode cL_law 1353 = .ok (.iconst 2, 1) := by decide +kernel
theorem dL_law_1354 : decode cL_law 1354 = .ok (.iadd, 1) := by decide +kernel
theorem dL_law_1355 : decode cL_law 1355 = .ok (.iaload, 1) := by decide +kernel
theorem dL_law_1356 : decode cL_law 1356 = .ok (.invokevirtual 177, 3) := by decide +kernel
theorem dL_law_1359 : decode cL_law 1359 = .ok (.lcmp, 1) := by decide +kernel
theorem dL_law_1360 : decode cL_law 1360 = .ok (.ifCond .eq 124, 3) := by decide +kernel
set_option maxHeartbeats 4000000 in
set_option maxRecDepth 100000 in
/-- element -/
theorem lc_38 {p : Program} {l : Launch} {e : Env} {s : State} {m : MethodId} {below : List Frame} {meth : Method} {c : Code} {b L : Nat} {xs : Nat → Int32} {D : va_G} {cy : Nat → ClassId} {z a a' : Nat → Nat} {ls : Array Slot} {x3 : Int32} {Q : State → Prop} (B : lwB p s m meth c b L xs D cy z a a' ls x3) (kk : lwC p l e s m below meth c b D cy a a' ls Q 1484) : lwC p l e s m below meth c b D cy a a' ls Q 1331 := by
  intro SX SM H locs hRR hP hS
  obtain ⟨η, gn, hR⟩ := hRR
  obtain ⟨⟨hx, hb, hr, hml, hown, hts, hX, hbl, hlocks, hgv⟩, hK, hIx, hIm, hEx, hDD, hl, hj⟩ := id B
  have hts' : ∀ w ∈ xTB, w.before #[Value.ref b] s = true := fun w hw => hts w (List.mem_filter.mp hw).1
  have hbA : ¬ (fun q : Nat => s.heap.size ≤ q) b := Nat.not_le.mpr hbl
  refine lv_aload_n hx hb dL_law_1331 rfl (lv_at hl 1 rfl) ?_
  refine lw_ld hx hb hX hbl hbA hS hl rfl rfl (1 : Int32) (by decide) (hj _ (by decide)) dL_law_1332 dL_law_1333 dL_law_1334 dL_law_1335 dL_law_1336 ?_
  refine lw_ld hx hb hX hbl hbA hS hl rfl rfl (2 : Int32) (by decide) (hj _ (by decide)) dL_law_1337 dL_law_1338 dL_law_1339 dL_law_1340 dL_law_1341 ?_
  obtain ⟨v, SX', SM', e1, e2, hR'⟩ := q_element hR (xs (x3 + 1).toNatClampNeg) (xs (x3 + 2).toNatClampNeg)
  refine lx_l B hP hS (rest := []) (n := 2) ⟨xw_mem 1052 (by decide +kernel) rfl, xw_mem 98 (by decide +kernel) rfl, xw_mem 1049 (by decide +kernel) rfl, by decide +kernel⟩ (xw_mem 1050 (by decide +kernel) rfl) (xw_mem 1051 (by decide +kernel) rfl) [.int (xs (x3 + 1).toNatClampNeg), .int (xs (x3 + 2).toNatClampNeg)] (c_X11_element (z := z) hIx e1 H.size) (by decide) rfl rfl (Nat.le_of_ble_eq_true rfl) dL_law_1342 (fun H locs hP hS => ?_)
  refine lv_aload_n hx hb dL_law_1345 rfl (lv_at hl 2 rfl) ?_
  refine lw_ld hx hb hX hbl hbA hS hl rfl rfl (1 : Int32) (by decide) (hj _ (by decide)) dL_law_1346 dL_law_1347 dL_law_1348 dL_law_1349 dL_law_1350 ?_
  refine lw_ld hx hb hX hbl hbA hS hl rfl rfl (2 : Int32) (by decide) (hj _ (by decide)) dL_law_1351 dL_law_1352 dL_law_1353 dL_law_1354 dL_law_1355 ?_
  refine lm_l B hP hS (rest := [.long v]) (n := 2) ⟨xw_mem 1745 (by decide +kernel) rfl, xw_mem 110 (by decide +kernel) rfl, xw_mem 1742 (by decide +kernel) rfl, by decide +kernel⟩ (xw_mem 1743 (by decide +kernel) rfl) (xw_mem 1744 (by decide +kernel) rfl) [.int (xs (x3 + 1).toNatClampNeg), .int (xs (x3 + 2).toNatClampNeg)] (c_X12_element (z := z) hIm e2 H.size) (by decide) rfl rfl (Nat.le_of_ble_eq_true rfl) dL_law_1356 (fun H locs hP hS => ?_)
  refine W.lcmp hx hb dL_law_1359 ?_
  rw [lcmp_self]
  refine lv_if_eq (tgt := 1484) hx hb dL_law_1360 (by decide) (fun _ => ?_) (fun cq => absurd rfl cq)
  exact kk _ _ _ _ hR' hP hS
theorem dL_law_1365 : decode cL_law 1365 = .ok (.aload_n 1, 1) := by decide +kernel
theorem dL_law_1366 : decode cL_law 1366 = .ok (.aload_n 0, 1) := by decide +kernel
theorem dL_law_1367 : decode cL_law 1367 = .ok (.iload_n 3, 1) := by decide +kernel
theorem dL_law_1368 : decode cL_law 1368 = .ok (.iconst 1, 1) := by decide +kernel
theorem dL_law_1369 : decode cL_law 1369 = .ok (.iadd, 1) := by decide +kernel
theorem dL_law_1370 : decode cL_law 1370 = .ok (.iaload, 1) := by decide +kernel
theorem dL_law_1371 : decode cL_law 1371 = .ok (.aload_n 0, 1) := by decide +kernel
theorem dL_law_1372 : decode cL_law 1372 = .ok (.iload_n 3, 1) := by decide +kernel
theorem dL_law_1373 : decode cL_law 1373 = .ok (.iconst 2, 1) := by decide +kernel
theorem dL_law_1374 : decode cL_law 1374 = .ok (.iadd, 1) := by decide +kernel
theorem dL_law_1375 : decode cL_law 1375 = .ok (.iaload, 1) := by decide +kernel
theorem dL_law_1376 : decode cL_law 1376 = .ok (.aload_n 0, 1) := by decide +kernel
theorem dL_law_1377 : decode cL_law 1377 = .ok (.iload_n 3, 1) := by decide +kernel
theorem dL_law_1378 : decode cL_law 1378 = .ok (.iconst 3, 1) := by decide +kernel
theorem dL_law_1379 : decode cL_law 1379 = .ok (.iadd, 1) := by decide +kernel
theorem dL_law_1380 : decode cL_law 1380 = .ok (.iaload, 1) := by decide +kernel
theorem dL_law_1381 : decode cL_law 1381 = .ok (.aload_n 0, 1) := by decide +kernel
theorem dL_law_1382 : decode cL_law 1382 = .ok (.iload_n 3, 1) := by decide +kernel
theorem dL_law_1383 : decode cL_law 1383 = .ok (.iconst 4, 1) := by decide +kernel
theorem dL_law_1384 : decode cL_law 1384 = .ok (.iadd, 1) := by decide +kernel
theorem dL_law_1385 : decode cL_law 1385 = .ok (.iaload, 1) := by decide +kernel
theorem dL_law_1386 : decode cL_law 1386 = .ok (.aload_n 0, 1) := by decide +kernel
theorem dL_law_1387 : decode cL_law 1387 = .ok (.iload_n 3, 1) := by decide +kernel
theorem dL_law_1388 : decode cL_law 1388 = .ok (.iconst 5, 1) := by decide +kernel
theorem dL_law_1389 : decode cL_law 1389 = .ok (.iadd, 1) := by decide +kernel
theorem dL_law_1390 : decode cL_law 1390 = .ok (.iaload, 1) := by decide +kernel
theorem dL_law_1391 : decode cL_law 1391 = .ok (.invokevirtual 178, 3) := by decide +kernel
theorem dL_law_1394 : decode cL_law 1394 = .ok (.aload_n 2, 1) := by decide +kernel
theorem dL_law_1395 : decode cL_law 1395 = .ok (.aload_n 0, 1) := by decide +kernel
theorem dL_law_1396 : decode cL_law 1396 = .ok (.iload_n 3, 1) := by decide +kernel
theorem dL_law_1397 : decode cL_law 1397 = .ok (.iconst 1, 1) := by decide +kernel
theorem dL_law_1398 : decode cL_law 1398 = .ok (.iadd, 1) := by decide +kernel
theorem dL_law_1399 : decode cL_law 1399 = .ok (.iaload, 1) := by decide +kernel
theorem dL_law_1400 : decode cL_law 1400 = .ok (.aload_n 0, 1) := by decide +kernel
theorem dL_law_1401 : decode cL_law 1401 = .ok (.iload_n 3, 1) := by decide +kernel
theorem dL_law_1402 : decode cL_law 1402 = .ok (.iconst 2, 1) := by decide +kernel
theorem dL_law_1403 : decode cL_law 1403 = .ok (.iadd, 1) := by decide +kernel
theorem dL_law_1404 : decode cL_law 1404 = .ok (.iaload, 1) := by decide +kernel
theorem dL_law_1405 : decode cL_law 1405 = .ok (.aload_n 0, 1) := by decide +kernel
theorem dL_law_1406 : decode cL_law 1406 = .ok (.iload_n 3, 1) := by decide +kernel
theorem dL_law_1407 : decode cL_law 1407 = .ok (.iconst 3, 1) := by decide +kernel
theorem dL_law_1408 : decode cL_law 1408 = .ok (.iadd, 1) := by decide +kernel
theorem dL_law_1409 : decode cL_law 1409 = .ok (.iaload, 1) := by decide +kernel
theorem dL_law_1410 : decode cL_law 1410 = .ok (.aload_n 0, 1) := by decide +kernel
theorem dL_law_1411 : decode cL_law 1411 = .ok (.iload_n 3, 1) := by decide +kernel
theorem dL_law_1412 : decode cL_law 1412 = .ok (.iconst 4, 1) := by decide +kernel
theorem dL_law_1413 : decode cL_law 1413 = .ok (.iadd, 1) := by decide +kernel
theorem dL_law_1414 : decode cL_law 1414 = .ok (.iaload, 1) := by decide +kernel
theorem dL_law_1415 : decode cL_law 1415 = .ok (.aload_n 0, 1) := by decide +kernel
theorem dL_law_1416 : decode cL_law 1416 = .ok (.iload_n 3, 1) := by decide +kernel
theorem dL_law_1417 : decode cL_law 1417 = .ok (.iconst 5, 1) := by decide +kernel
theorem dL_law_1418 : decode cL_law 1418 = .ok (.iadd, 1) := by decide +kernel
theorem dL_law_1419 : decode cL_law 1419 = .ok (.iaload, 1) := by decide +kernel
theorem dL_law_1420 : decode cL_law 1420 = .ok (.invokevirtual 182, 3) := by decide +kernel
theorem dL_law_1423 : decode cL_law 1423 = .ok (.if_icmp .eq 61, 3) := by decide +kernel
set_option maxHeartbeats 4000000 in
set_option maxRecDepth 100000 in
/-- shift -/
theorem lc_39 {p : Program} {l : Launch} {e : Env} {s : State} {m : MethodId} {below : List Frame} {meth : Method} {c : Code} {b L : Nat} {xs : Nat → Int32} {D : va_G} {cy : Nat → ClassId} {z a a' : Nat → Nat} {ls : Array Slot} {x3 : Int32} {Q : State → Prop} (B : lwB p s m meth c b L xs D cy z a a' ls x3) (kk : lwC p l e s m below meth c b D cy a a' ls Q 1484) : lwC p l e s m below meth c b D cy a a' ls Q 1365 := by
  intro SX SM H locs hRR hP hS
  obtain ⟨η, gn, hR⟩ := hRR
  obtain ⟨⟨hx, hb, hr, hml, hown, hts, hX, hbl, hlocks, hgv⟩, hK, hIx, hIm, hEx, hDD, hl, hj⟩ := id B
  have hts' : ∀ w ∈ xTB, w.before #[Value.ref b] s = true := fun w hw => hts w (List.mem_filter.mp hw).1
  have hbA : ¬ (fun q : Nat => s.heap.size ≤ q) b := Nat.not_le.mpr hbl
  refine lv_aload_n hx hb dL_law_1365 rfl (lv_at hl 1 rfl) ?_
  refine lw_ld hx hb hX hbl hbA hS hl rfl rfl (1 : Int32) (by decide) (hj _ (by decide)) dL_law_1366 dL_law_1367 dL_law_1368 dL_law_1369 dL_law_1370 ?_
  refine lw_ld hx hb hX hbl hbA hS hl rfl rfl (2 : Int32) (by decide) (hj _ (by decide)) dL_law_1371 dL_law_1372 dL_law_1373 dL_law_1374 dL_law_1375 ?_
  refine lw_ld hx hb hX hbl hbA hS hl rfl rfl (3 : Int32) (by decide) (hj _ (by decide)) dL_law_1376 dL_law_1377 dL_law_1378 dL_law_1379 dL_law_1380 ?_
  refine lw_ld hx hb hX hbl hbA hS hl rfl rfl (4 : Int32) (by decide) (hj _ (by decide)) dL_law_1381 dL_law_1382 dL_law_1383 dL_law_1384 dL_law_1385 ?_
  refine lw_ld hx hb hX hbl hbA hS hl rfl rfl (5 : Int32) (by decide) (hj _ (by decide)) dL_law_1386 dL_law_1387 dL_law_1388 dL_law_1389 dL_law_1390 ?_
  obtain ⟨v, SX', SM', e1, e2, hR'⟩ := q_shift hR (xs (x3 + 1).toNatClampNeg) (xs (x3 + 2).toNatClampNeg) (xs (x3 + 3).toNatClampNeg) (xs (x3 + 4).toNatClampNeg) (xs (x3 + 5).toNatClampNeg)
  refine lx_i B hP hS (rest := []) (n := 5) ⟨xw_mem 1056 (by decide +kernel) rfl, xw_mem 98 (by decide +kernel) rfl, xw_mem 1053 (by decide +kernel) rfl, by decide +kernel⟩ (xw_mem 1054 (by decide +kernel) rfl) (xw_mem 1055 (by decide +kernel) rfl) [.int (xs (x3 + 1).toNatClampNeg), .int (xs (x3 + 2).toNatClampNeg), .int (xs (x3 + 3).toNatClampNeg), .int (xs (x3 + 4).toNatClampNeg), .int (xs (x3 + 5).toNatClampNeg)] (c_X11_shift (z := z) hIx e1 H.size) (by decide) rfl rfl (Nat.le_of_ble_eq_true rfl) dL_law_1391 (fun H locs hP hS => ?_)
  refine lv_aload_n hx hb dL_law_1394 rfl (lv_at hl 2 rfl) ?_
  refine lw_ld hx hb hX hbl hbA hS hl rfl rfl (1 : Int32) (by decide) (hj _ (by decide)) dL_law_1395 dL_law_1396 dL_law_1397 dL_law_1398 dL_law_1399 ?_
  refine lw_ld hx hb hX hbl hbA hS hl rfl rfl (2 : Int32) (by decide) (hj _ (by decide)) dL_law_1400 dL_law_1401 dL_law_1402 dL_law_1403 dL_law_1404 ?_
  refine lw_ld hx hb hX hbl hbA hS hl rfl rfl (3 : Int32) (by decide) (hj _ (by decide)) dL_law_1405 dL_law_1406 dL_law_1407 dL_law_1408 dL_law_1409 ?_
  refine lw_ld hx hb hX hbl hbA hS hl rfl rfl (4 : Int32) (by decide) (hj _ (by decide)) dL_law_1410 dL_law_1411 dL_law_1412 dL_law_1413 dL_law_1414 ?_
  refine lw_ld hx hb hX hbl hbA hS hl rfl rfl (5 : Int32) (by decide) (hj _ (by decide)) dL_law_1415 dL_law_1416 dL_law_1417 dL_law_1418 dL_law_1419 ?_
  refine lm_i B hP hS (rest := [.int v]) (n := 5) ⟨xw_mem 1749 (by decide +kernel) rfl, xw_mem 110 (by decide +kernel) rfl, xw_mem 1746 (by decide +kernel) rfl, by decide +kernel⟩ (xw_mem 1747 (by decide +kernel) rfl) (xw_mem 1748 (by decide +kernel) rfl) [.int (xs (x3 + 1).toNatClampNeg), .int (xs (x3 + 2).toNatClampNeg), .int (xs (x3 + 3).toNatClampNeg), .int (xs (x3 + 4).toNatClampNeg), .int (xs (x3 + 5).toNatClampNeg)] (c_X12_shift (z := z) hIm e2 H.size) (by decide) rfl rfl (Nat.le_of_ble_eq_true rfl) dL_law_1420 (fun H locs hP hS => ?_)
  refine lv_icmp_eq (tgt := 1484) hx hb dL_law_1423 (by decide) (fun _ => ?_) (fun cq => absurd rfl cq)
  exact kk _ _ _ _ hR' hP hS
theorem dL_law_1428 : decode cL_law 1428 = .ok (.aload_n 1, 1) := by decide +kernel
theorem dL_law_1429 : decode cL_law 1429 = .ok (.aload_n 0, 1) := by decide +kernel
theorem dL_law_1430 : decode cL_law 1430 = .ok (.iload_n 3, 1) := by decide +kernel
theorem dL_law_1431 : decode cL_law 1431 = .ok (.iconst 1, 1) := by decide +kernel
theorem dL_law_1432 : decode cL_law 1432 = .ok (.iadd, 1) := by decide +kernel
theorem dL_law_1433 : decode cL_law 1433 = .ok (.iaload, 1) := by decide +kernel
theorem dL_law_1434 : decode cL_law 1434 = .ok (.aload_n 0, 1) := by decide +kernel
theorem dL_law_1435 : decode cL_law 1435 = .ok (.iload_n 3, 1) := by decide +kernel
theorem dL_law_1436 : decode cL_law 1436 = .ok (.iconst 2, 1) := by decide +kernel
theorem dL_law_1437 : decode cL_law 1437 = .ok (.iadd, 1) := by decide +kernel
theorem dL_law_1438 : decode cL_law 1438 = .ok (.iaload, 1) := by decide +kernel
theorem dL_law_1439 : decode cL_law 1439 = .ok (.invokevirtual 183, 3) := by decide +kernel
theorem dL_law_1442 : decode cL_law 1442 = .ok (.aload_n 2, 1) := by decide +kernel
theorem dL_law_1443 : decode cL_law 1443 = .ok (.aload_n 0, 1) := by decide +kernel
theorem dL_law_1444 : decode cL_law 1444 = .ok (.iload_n 3, 1) := by decide +kernel
theorem dL_law_1445 : decode cL_law 1445 = .ok (.iconst 1, 1) := by decide +kernel
theorem dL_law_1446 : decode cL_law 1446 = .ok (.iadd, 1) := by decide +kernel
theorem dL_law_1447 : decode cL_law 1447 = .ok (.iaload, 1) := by decide +kernel
theorem dL_law_1448 : decode cL_law 1448 = .ok (.aload_n 0, 1) := by decide +kernel
theorem dL_law_1449 : decode cL_law 1449 = .ok (.iload_n 3, 1) := by decide +kernel
theorem dL_law_1450 : decode cL_law 1450 = .ok (.iconst 2, 1) := by decide +kernel
theorem dL_law_1451 : decode cL_law 1451 = .ok (.iadd, 1) := by decide +kernel
theorem dL_law_1452 : decode cL_law 1452 = .ok (.iaload, 1) := by decide +kernel
theorem dL_law_1453 : decode cL_law 1453 = .ok (.invokevirtual 186, 3) := by decide +kernel
theorem dL_law_1456 : decode cL_law 1456 = .ok (.if_icmp .eq 28, 3) := by decide +kernel
set_option maxHeartbeats 4000000 in
set_option maxRecDepth 100000 in
/-- taken -/
theorem lc_40 {p : Program} {l : Launch} {e : Env} {s : State} {m : MethodId} {below : List Frame} {meth : Method} {c : Code} {b L : Nat} {xs : Nat → Int32} {D : va_G} {cy : Nat → ClassId} {z a a' : Nat → Nat} {ls : Array Slot} {x3 : Int32} {Q : State → Prop} (B : lwB p s m meth c b L xs D cy z a a' ls x3) (kk : lwC p l e s m below meth c b D cy a a' ls Q 1484) : lwC p l e s m below meth c b D cy a a' ls Q 1428 := by
  intro SX SM H locs hRR hP hS
  obtain ⟨η, gn, hR⟩ := hRR
  obtain ⟨⟨hx, hb, hr, hml, hown, hts, hX, hbl, hlocks, hgv⟩, hK, hIx, hIm, hEx, hDD, hl, hj⟩ := id B
  have hts' : ∀ w ∈ xTB, w.before #[Value.ref b] s = true := fun w hw => hts w (List.mem_filter.mp hw).1
  have hbA : ¬ (fun q : Nat => s.heap.size ≤ q) b := Nat.not_le.mpr hbl
  refine lv_aload_n hx hb dL_law_1428 rfl (lv_at hl 1 rfl) ?_
  refine lw_ld hx hb hX hbl hbA hS hl rfl rfl (1 : Int32) (by decide) (hj _ (by decide)) dL_law_1429 dL_law_1430 dL_law_1431 dL_law_1432 dL_law_1433 ?_
  refine lw_ld hx hb hX hbl hbA hS hl rfl rfl (2 : Int32) (by decide) (hj _ (by decide)) dL_law_1434 dL_law_1435 dL_law_1436 dL_law_1437 dL_law_1438 ?_
  obtain ⟨v, SX', SM', e1, e2, hR'⟩ := q_taken hR (xs (x3 + 1).toNatClampNeg) (xs (x3 + 2).toNatClampNeg)
  refine lx_i B hP hS (rest := []) (n := 2) ⟨xw_mem 1073 (by decide +kernel) rfl, xw_mem 98 (by decide +kernel) rfl, xw_mem 1070 (by decide +kernel) rfl, by decide +kernel⟩ (xw_mem 1071 (by decide +kernel) rfl) (xw_mem 1072 (by decide +kernel) rfl) [.int (xs (x3 + 1).toNatClampNeg), .int (xs (x3 + 2).toNatClampNeg)] (c_X11_taken (z := z) hIx e1 H.size) (by decide) rfl rfl (Nat.le_of_ble_eq_true rfl) dL_law_1439 (fun H locs hP hS => ?_)
  refine lv_aload_n hx hb dL_law_1442 rfl (lv_at hl 2 rfl) ?_
  refine lw_ld hx hb hX hbl hbA hS hl rfl rfl (1 : Int32) (by decide) (hj _ (by decide)) dL_law_1443 dL_law_1444 dL_law_1445 dL_law_1446 dL_law_1447 ?_
  refine lw_ld hx hb hX hbl hbA hS hl rfl rfl (2 : Int32) (by decide) (hj _ (by decide)) dL_law_1448 dL_law_1449 dL_law_1450 dL_law_1451 dL_law_1452 ?_
  refine lm_i B hP hS (rest := [.int v]) (n := 2) ⟨xw_mem 1753 (by decide +kernel) rfl, xw_mem 110 (by decide +kernel) rfl, xw_mem 1750 (by decide +kernel) rfl, by decide +kernel⟩ (xw_mem 1751 (by decide +kernel) rfl) (xw_mem 1752 (by decide +kernel) rfl) [.int (xs (x3 + 1).toNatClampNeg), .int (xs (x3 + 2).toNatClampNeg)] (c_X12_taken (z := z) hIm e2 H.size) (by decide) rfl rfl (Nat.le_of_ble_eq_true rfl) dL_law_1453 (fun H locs hP hS => ?_)
  refine lv_icmp_eq (tgt := 1484) hx hb dL_law_1456 (by decide) (fun _ => ?_) (fun cq => absurd rfl cq)
  exact kk _ _ _ _ hR' hP hS
theorem dL_law_1461 : decode cL_law 1461 = .ok (.aload_n 1, 1) := by decide +kernel
theorem dL_law_1462 : decode cL_law 1462 = .ok (.aload_n 0, 1) := by decide +kernel
theorem dL_law_1463 : decode cL_law 1463 = .ok (.iload_n 3, 1) := by decide +kernel
theorem dL_law_1464 : decode cL_law 1464 = .ok (.iconst 1, 1) := by decide +kernel
theorem dL_law_1465 : decode cL_law 1465 = .ok (.iadd, 1) := by decide +kernel
theorem dL_law_1466 : decode cL_law 1466 = .ok (.iaload, 1) := by decide +kernel
theorem dL_law_1467 : decode cL_law 1467 = .ok (.invokevirtual 187, 3) := by decide +kernel
theorem dL_law_1470 : decode cL_law 1470 = .ok (.aload_n 2, 1) := by decide +kernel
theorem dL_law_1471 : decode cL_law 1471 = .ok (.aload_n 0, 1) := by decide +kernel
theorem dL_law_1472 : decode cL_law 1472 = .ok (.iload_n 3, 1) := by decide +kernel
theorem dL_law_1473 : decode cL_law 1473 = .ok (.iconst 1, 1) := by decide +kernel
theorem dL_law_1474 : decode cL_law 1474 = .ok (.iadd, 1) := by decide +kernel
theorem dL_law_1475 : decode cL_law 1475 = .ok (.iaload, 1) := by decide +kernel
theorem dL_law_1476 : decode cL_law 1476 = .ok (.invokevirtual 190, 3) := by decide +kernel
theorem dL_law_1479 : decode cL_law 1479 = .ok (.if_icmp .eq 5, 3) := by decide +kernel
set_option maxHeartbeats 4000000 in
set_option maxRecDepth 100000 in
/-- count -/
theorem lc_41 {p : Program} {l : Launch} {e : Env} {s : State} {m : MethodId} {below : List Frame} {meth : Method} {c : Code} {b L : Nat} {xs : Nat → Int32} {D : va_G} {cy : Nat → ClassId} {z a a' : Nat → Nat} {ls : Array Slot} {x3 : Int32} {Q : State → Prop} (B : lwB p s m meth c b L xs D cy z a a' ls x3) (kk : lwC p l e s m below meth c b D cy a a' ls Q 1484) : lwC p l e s m below meth c b D cy a a' ls Q 1461 := by
  intro SX SM H locs hRR hP hS
  obtain ⟨η, gn, hR⟩ := hRR
  obtain ⟨⟨hx, hb, hr, hml, hown, hts, hX, hbl, hlocks, hgv⟩, hK, hIx, hIm, hEx, hDD, hl, hj⟩ := id B
  have hts' : ∀ w ∈ xTB, w.before #[Value.ref b] s = true := fun w hw => hts w (List.mem_filter.mp hw).1
  have hbA : ¬ (fun q : Nat => s.heap.size ≤ q) b := Nat.not_le.mpr hbl
  refine lv_aload_n hx hb dL_law_1461 rfl (lv_at hl 1 rfl) ?_
  refine lw_ld hx hb hX hbl hbA hS hl rfl rfl (1 : Int32) (by decide) (hj _ (by decide)) dL_law_1462 dL_law_1463 dL_law_1464 dL_law_1465 dL_law_1466 ?_
  obtain ⟨v, SX', SM', e1, e2, hR'⟩ := q_count hR (xs (x3 + 1).toNatClampNeg)
  refine lx_i B hP hS (rest := []) (n := 1) ⟨xw_mem 1085 (by decide +kernel) rfl, xw_mem 98 (by decide +kernel) rfl, xw_mem 1082 (by decide +kernel) rfl, by decide +kernel⟩ (xw_mem 1083 (by decide +kernel) rfl) (xw_mem 1084 (by decide +kernel) rfl) [.int (xs (x3 + 1).toNatClampNeg)] (c_X11_count (z := z) hIx e1 H.size) (by decide) rfl rfl (Nat.le_of_ble_eq_true rfl) dL_law_1467 (fun H locs hP hS => ?_)
  refine lv_aload_n hx hb dL_law_1470 rfl (lv_at hl 2 rfl) ?_
  refine lw_ld hx hb hX hbl hbA hS hl rfl rfl (1 : Int32) (by decide) (hj _ (by decide)) dL_law_1471 dL_law_1472 dL_law_1473 dL_law_1474 dL_law_1475 ?_
  refine lm_i B hP hS (rest := [.int v]) (n := 1) ⟨xw_mem 1717 (by decide +kernel) rfl, xw_mem 110 (by decide +kernel) rfl, xw_mem 1714 (by decide +kernel) rfl, by decide +kernel⟩ (xw_mem 1715 (by decide +kernel) rfl) (xw_mem 1716 (by decide +kernel) rfl) [.int (xs (x3 + 1).toNatClampNeg)] (c_X12_count (z := z) hIm e2 H.size) (by decide) rfl rfl (Nat.le_of_ble_eq_true rfl) dL_law_1476 (fun H locs hP hS => ?_)
  refine lv_icmp_eq (tgt := 1484) hx hb dL_law_1479 (by decide) (fun _ => ?_) (fun cq => absurd rfl cq)
  exact kk _ _ _ _ hR' hP hS
