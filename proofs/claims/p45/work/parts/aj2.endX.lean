/-! part aj2: the world that the constructor of HotStack leaves -/
set_option maxHeartbeats 2000000 in
set_option maxRecDepth 100000 in
theorem xX_len {cy : Nat → ClassId} {h0 : Nat} {w : va_W} (h : is_X11 cy h0 w) : w.length = 116 := by
  obtain ⟨qa, p1, p2, p3, p4, p5, p6, p7, p8, p9, p10, p11, p12, p13, p14, p15, p16, p17, p18, w1, w2, w3, w4, w5, w6, w7, w8, w9, w10, w11, w12, w13, w14, w15, w16, w17, w18, hw1, hw2, hw3, hw4, hw5, hw6, hw7, hw8, hw9, hw10, hw11, hw12, hw13, hw14, hw15, hw16, hw17, hw18, rfl⟩ := h
  obtain ⟨b1q1, b1q2, b1q3, b1q4, b1q5, rfl⟩ := hw1
  obtain ⟨b2q1, b2q2, b2q3, b2q4, b2q5, b2q6, b2q7, rfl⟩ := hw2
  obtain ⟨b3q1, b3q2, b3q3, b3q4, b3q5, b3q6, b3q7, b3q8, b3q9, rfl⟩ := hw3
  obtain ⟨b4q1, b4q2, b4q3, b4q4, b4q5, b4q6, b4q7, b4q8, b4q9, rfl⟩ := hw4
  obtain ⟨b5q1, b5q2, b5q3, b5q4, b5q5, b5q6, b5q7, b5q8, b5q9, rfl⟩ := hw5
  obtain rfl := hw6
  obtain ⟨b7q1, rfl⟩ := hw7
  obtain ⟨b8q1, b8q2, b8q3, rfl⟩ := hw8
  obtain ⟨ga, gp1, gp2, gp3, gp4, gw1, gw2, gw3, gw4, hgw1, hgw2, hgw3, hgw4, rfl⟩ := hw9
  obtain ⟨v1q1, v1q2, v1q3, v1q4, v1q5, v1q6, v1q7, v1q8, v1q9, rfl⟩ := hgw1
  obtain ⟨v2q1, v2q2, v2q3, v2q4, v2q5, v2q6, v2q7, v2q8, v2q9, rfl⟩ := hgw2
  obtain ⟨v3q1, v3q2, v3q3, v3q4, v3q5, v3q6, v3q7, v3q8, v3q9, rfl⟩ := hgw3
  obtain ⟨v4q1, v4q2, v4q3, v4q4, v4q5, v4q6, v4q7, v4q8, v4q9, rfl⟩ := hgw4
  obtain rfl := hw10
  obtain ⟨b11q1, b11q2, b11q3, b11q4, rfl⟩ := hw11
  obtain ⟨b12q1, b12q2, rfl⟩ := hw12
  obtain ⟨b13q1, rfl⟩ := hw13
  obtain ⟨b14q1, rfl⟩ := hw14
  obtain ⟨b15q1, rfl⟩ := hw15
  obtain ⟨b16q1, rfl⟩ := hw16
  obtain ⟨b17q1, rfl⟩ := hw17
  obtain ⟨b18q1, rfl⟩ := hw18
  simp only [List.length_append, List.length_cons, List.length_nil, Nat.reduceAdd]
set_option maxHeartbeats 2000000 in
set_option maxRecDepth 100000 in
theorem xX_end {D : va_G} {cy : Nat → ClassId} {h0 : Nat} {w : va_W} {H : Heap} {A : Nat → Prop} (h : is_X11 cy h0 w) (hP : va_P D vwCl w H) (hD : va_D A w) : ∃ a : Nat → Nat, a 0 = h0 ∧ va_P D vwCl (xW cy xtb a S0X) H ∧ va_D A (xW cy xtb a S0X) := by
  have hlen := xX_len h
  have hp : ∀ i ∈ ([0, 1, 2, 3, 4, 5, 6, 7, 8, 9, 10, 11, 12, 13, 14, 15, 16, 17, 18, 19, 20, 21, 22, 23, 24, 25, 26, 27, 28, 29, 30, 31, 32, 33, 34, 35, 36, 37, 38, 39, 40, 41, 42, 43, 44, 45, 55, 56, 57, 58, 59, 60, 61, 62, 63, 64, 65, 66, 67, 68, 69, 70, 71, 72, 73, 74, 75, 76, 77, 78, 79, 80, 81, 82, 83, 84, 85, 86, 87, 88, 89, 90, 91, 92, 93, 94, 46, 47, 48, 49, 50, 51, 52, 53, 54, 95, 96, 97, 98, 99, 100, 101, 102, 103, 104, 105, 106, 107, 108, 109, 110, 111, 112, 113, 114, 115] : List Nat), i < 116 := by decide +kernel
  have hnd : ([0, 1, 2, 3, 4, 5, 6, 7, 8, 9, 10, 11, 12, 13, 14, 15, 16, 17, 18, 19, 20, 21, 22, 23, 24, 25, 26, 27, 28, 29, 30, 31, 32, 33, 34, 35, 36, 37, 38, 39, 40, 41, 42, 43, 44, 45, 55, 56, 57, 58, 59, 60, 61, 62, 63, 64, 65, 66, 67, 68, 69, 70, 71, 72, 73, 74, 75, 76, 77, 78, 79, 80, 81, 82, 83, 84, 85, 86, 87, 88, 89, 90, 91, 92, 93, 94, 46, 47, 48, 49, 50, 51, 52, 53, 54, 95, 96, 97, 98, 99, 100, 101, 102, 103, 104, 105, 106, 107, 108, 109, 110, 111, 112, 113, 114, 115] : List Nat).Nodup := by decide +kernel
  obtain ⟨a, ha⟩ : ∃ a : Nat → Nat, a = fun k => (w.map Prod.fst).getD (([0, 1, 2, 3, 4, 5, 6, 7, 8, 9, 10, 11, 12, 13, 14, 15, 16, 17, 18, 19, 20, 21, 22, 23, 24, 25, 26, 27, 28, 29, 30, 31, 32, 33, 34, 35, 36, 37, 38, 39, 40, 41, 42, 43, 44, 45, 55, 56, 57, 58, 59, 60, 61, 62, 63, 64, 65, 66, 67, 68, 69, 70, 71, 72, 73, 74, 75, 76, 77, 78, 79, 80, 81, 82, 83, 84, 85, 86, 87, 88, 89, 90, 91, 92, 93, 94, 46, 47, 48, 49, 50, 51, 52, 53, 54, 95, 96, 97, 98, 99, 100, 101, 102, 103, 104, 105, 106, 107, 108, 109, 110, 111, 112, 113, 114, 115] : List Nat).getD k 0) 0 := ⟨_, rfl⟩
  have hD2 : va_D A (xW cy xtb a S0X) := by
    rw [ha]
    exact xD_pm hD _ hnd (fun i hi => by rw [hlen]; exact hp i hi) rfl
  clear hD hp hnd hlen
  obtain ⟨qa, p1, p2, p3, p4, p5, p6, p7, p8, p9, p10, p11, p12, p13, p14, p15, p16, p17, p18, w1, w2, w3, w4, w5, w6, w7, w8, w9, w10, w11, w12, w13, w14, w15, w16, w17, w18, hw1, hw2, hw3, hw4, hw5, hw6, hw7, hw8, hw9, hw10, hw11, hw12, hw13, hw14, hw15, hw16, hw17, hw18, rfl⟩ := h
  obtain ⟨b1q1, b1q2, b1q3, b1q4, b1q5, rfl⟩ := hw1
  obtain ⟨b2q1, b2q2, b2q3, b2q4, b2q5, b2q6, b2q7, rfl⟩ := hw2
  obtain ⟨b3q1, b3q2, b3q3, b3q4, b3q5, b3q6, b3q7, b3q8, b3q9, rfl⟩ := hw3
  obtain ⟨b4q1, b4q2, b4q3, b4q4, b4q5, b4q6, b4q7, b4q8, b4q9, rfl⟩ := hw4
  obtain ⟨b5q1, b5q2, b5q3, b5q4, b5q5, b5q6, b5q7, b5q8, b5q9, rfl⟩ := hw5
  obtain rfl := hw6
  obtain ⟨b7q1, rfl⟩ := hw7
  obtain ⟨b8q1, b8q2, b8q3, rfl⟩ := hw8
  obtain ⟨ga, gp1, gp2, gp3, gp4, gw1, gw2, gw3, gw4, hgw1, hgw2, hgw3, hgw4, rfl⟩ := hw9
  obtain ⟨v1q1, v1q2, v1q3, v1q4, v1q5, v1q6, v1q7, v1q8, v1q9, rfl⟩ := hgw1
  obtain ⟨v2q1, v2q2, v2q3, v2q4, v2q5, v2q6, v2q7, v2q8, v2q9, rfl⟩ := hgw2
  obtain ⟨v3q1, v3q2, v3q3, v3q4, v3q5, v3q6, v3q7, v3q8, v3q9, rfl⟩ := hgw3
  obtain ⟨v4q1, v4q2, v4q3, v4q4, v4q5, v4q6, v4q7, v4q8, v4q9, rfl⟩ := hgw4
  obtain rfl := hw10
  obtain ⟨b11q1, b11q2, b11q3, b11q4, rfl⟩ := hw11
  obtain ⟨b12q1, b12q2, rfl⟩ := hw12
  obtain ⟨b13q1, rfl⟩ := hw13
  obtain ⟨b14q1, rfl⟩ := hw14
  obtain ⟨b15q1, rfl⟩ := hw15
  obtain ⟨b16q1, rfl⟩ := hw16
  obtain ⟨b17q1, rfl⟩ := hw17
  obtain ⟨b18q1, rfl⟩ := hw18
  simp only [List.map_cons, List.map_nil, List.map_append, List.cons_append, List.nil_append, List.append_assoc] at ha
  simp only [List.cons_append, List.nil_append, List.append_assoc, g_m2_eq] at hP
  have e0 : a 0 = h0 := by rw [ha]; rfl
  have e1 : a 1 = qa := by rw [ha]; rfl
  have e2 : a 2 = p1 := by rw [ha]; rfl
  have e3 : a 3 = b1q1 := by rw [ha]; rfl
  have e4 : a 4 = b1q2 := by rw [ha]; rfl
  have e5 : a 5 = b1q3 := by rw [ha]; rfl
  have e6 : a 6 = b1q4 := by rw [ha]; rfl
  have e7 : a 7 = b1q5 := by rw [ha]; rfl
  have e8 : a 8 = p2 := by rw [ha]; rfl
  have e9 : a 9 = b2q1 := by rw [ha]; rfl
  have e10 : a 10 = b2q2 := by rw [ha]; rfl
  have e11 : a 11 = b2q3 := by rw [ha]; rfl
  have e12 : a 12 = b2q4 := by rw [ha]; rfl
  have e13 : a 13 = b2q5 := by rw [ha]; rfl
  have e14 : a 14 = b2q6 := by rw [ha]; rfl
  have e15 : a 15 = b2q7 := by rw [ha]; rfl
  have e16 : a 16 = p3 := by rw [ha]; rfl
  have e17 : a 17 = b3q1 := by rw [ha]; rfl
  have e18 : a 18 = b3q2 := by rw [ha]; rfl
  have e19 : a 19 = b3q3 := by rw [ha]; rfl
  have e20 : a 20 = b3q4 := by rw [ha]; rfl
  have e21 : a 21 = b3q5 := by rw [ha]; rfl
  have e22 : a 22 = b3q6 := by rw [ha]; rfl
  have e23 : a 23 = b3q7 := by rw [ha]; rfl
  have e24 : a 24 = b3q8 := by rw [ha]; rfl
  have e25 : a 25 = b3q9 := by rw [ha]; rfl
  have e26 : a 26 = p4 := by rw [ha]; rfl
  have e27 : a 27 = b4q1 := by rw [ha]; rfl
  have e28 : a 28 = b4q2 := by rw [ha]; rfl
  have e29 : a 29 = b4q3 := by rw [ha]; rfl
  have e30 : a 30 = b4q4 := by rw [ha]; rfl
  have e31 : a 31 = b4q5 := by rw [ha]; rfl
  have e32 : a 32 = b4q6 := by rw [ha]; rfl
  have e33 : a 33 = b4q7 := by rw [ha]; rfl
  have e34 : a 34 = b4q8 := by rw [ha]; rfl
  have e35 : a 35 = b4q9 := by rw [ha]; rfl
  have e36 : a 36 = p5 := by rw [ha]; rfl
  have e37 : a 37 = b5q1 := by rw [ha]; rfl
  have e38 : a 38 = b5q2 := by rw [ha]; rfl
  have e39 : a 39 = b5q3 := by rw [ha]; rfl
  have e40 : a 40 = b5q4 := by rw [ha]; rfl
  have e41 : a 41 = b5q5 := by rw [ha]; rfl
  have e42 : a 42 = b5q6 := by rw [ha]; rfl
  have e43 : a 43 = b5q7 := by rw [ha]; rfl
  have e44 : a 44 = b5q8 := by rw [ha]; rfl
  have e45 : a 45 = b5q9 := by rw [ha]; rfl
  have e46 : a 46 = gp1 := by rw [ha]; rfl
  have e47 : a 47 = v1q1 := by rw [ha]; rfl
  have e48 : a 48 = v1q2 := by rw [ha]; rfl
  have e49 : a 49 = v1q3 := by rw [ha]; rfl
  have e50 : a 50 = v1q4 := by rw [ha]; rfl
  have e51 : a 51 = v1q5 := by rw [ha]; rfl
  have e52 : a 52 = v1q6 := by rw [ha]; rfl
  have e53 : a 53 = v1q7 := by rw [ha]; rfl
  have e54 : a 54 = v1q8 := by rw [ha]; rfl
  have e55 : a 55 = v1q9 := by rw [ha]; rfl
  have e56 : a 56 = gp2 := by rw [ha]; rfl
  have e57 : a 57 = v2q1 := by rw [ha]; rfl
  have e58 : a 58 = v2q2 := by rw [ha]; rfl
  have e59 : a 59 = v2q3 := by rw [ha]; rfl
  have e60 : a 60 = v2q4 := by rw [ha]; rfl
  have e61 : a 61 = v2q5 := by rw [ha]; rfl
  have e62 : a 62 = v2q6 := by rw [ha]; rfl
  have e63 : a 63 = v2q7 := by rw [ha]; rfl
  have e64 : a 64 = v2q8 := by rw [ha]; rfl
  have e65 : a 65 = v2q9 := by rw [ha]; rfl
  have e66 : a 66 = gp3 := by rw [ha]; rfl
  have e67 : a 67 = v3q1 := by rw [ha]; rfl
  have e68 : a 68 = v3q2 := by rw [ha]; rfl
  have e69 : a 69 = v3q3 := by rw [ha]; rfl
  have e70 : a 70 = v3q4 := by rw [ha]; rfl
  have e71 : a 71 = v3q5 := by rw [ha]; rfl
  have e72 : a 72 = v3q6 := by rw [ha]; rfl
  have e73 : a 73 = v3q7 := by rw [ha]; rfl
  have e74 : a 74 = v3q8 := by rw [ha]; rfl
  have e75 : a 75 = v3q9 := by rw [ha]; rfl
  have e76 : a 76 = gp4 := by rw [ha]; rfl
  have e77 : a 77 = v4q1 := by rw [ha]; rfl
  have e78 : a 78 = v4q2 := by rw [ha]; rfl
  have e79 : a 79 = v4q3 := by rw [ha]; rfl
  have e80 : a 80 = v4q4 := by rw [ha]; rfl
  have e81 : a 81 = v4q5 := by rw [ha]; rfl
  have e82 : a 82 = v4q6 := by rw [ha]; rfl
  have e83 : a 83 = v4q7 := by rw [ha]; rfl
  have e84 : a 84 = v4q8 := by rw [ha]; rfl
  have e85 : a 85 = v4q9 := by rw [ha]; rfl
  have e86 : a 86 = p6 := by rw [ha]; rfl
  have e87 : a 87 = p7 := by rw [ha]; rfl
  have e88 : a 88 = b7q1 := by rw [ha]; rfl
  have e89 : a 89 = p8 := by rw [ha]; rfl
  have e90 : a 90 = b8q1 := by rw [ha]; rfl
  have e91 : a 91 = b8q2 := by rw [ha]; rfl
  have e92 : a 92 = b8q3 := by rw [ha]; rfl
  have e93 : a 93 = p9 := by rw [ha]; rfl
  have e94 : a 94 = ga := by rw [ha]; rfl
  have e95 : a 95 = p10 := by rw [ha]; rfl
  have e96 : a 96 = p11 := by rw [ha]; rfl
  have e97 : a 97 = b11q1 := by rw [ha]; rfl
  have e98 : a 98 = b11q2 := by rw [ha]; rfl
  have e99 : a 99 = b11q3 := by rw [ha]; rfl
  have e100 : a 100 = b11q4 := by rw [ha]; rfl
  have e101 : a 101 = p12 := by rw [ha]; rfl
  have e102 : a 102 = b12q1 := by rw [ha]; rfl
  have e103 : a 103 = b12q2 := by rw [ha]; rfl
  have e104 : a 104 = p13 := by rw [ha]; rfl
  have e105 : a 105 = b13q1 := by rw [ha]; rfl
  have e106 : a 106 = p14 := by rw [ha]; rfl
  have e107 : a 107 = b14q1 := by rw [ha]; rfl
  have e108 : a 108 = p15 := by rw [ha]; rfl
  have e109 : a 109 = b15q1 := by rw [ha]; rfl
  have e110 : a 110 = p16 := by rw [ha]; rfl
  have e111 : a 111 = b16q1 := by rw [ha]; rfl
  have e112 : a 112 = p17 := by rw [ha]; rfl
  have e113 : a 113 = b17q1 := by rw [ha]; rfl
  have e114 : a 114 = p18 := by rw [ha]; rfl
  have e115 : a 115 = b18q1 := by rw [ha]; rfl
  clear ha
  subst e0
  subst e1
  subst e2
  subst e3
  subst e4
  subst e5
  subst e6
  subst e7
  subst e8
  subst e9
  subst e10
  subst e11
  subst e12
  subst e13
  subst e14
  subst e15
  subst e16
  subst e17
  subst e18
  subst e19
  subst e20
  subst e21
  subst e22
  subst e23
  subst e24
  subst e25
  subst e26
  subst e27
  subst e28
  subst e29
  subst e30
  subst e31
  subst e32
  subst e33
  subst e34
  subst e35
  subst e36
  subst e37
  subst e38
  subst e39
  subst e40
  subst e41
  subst e42
  subst e43
  subst e44
  subst e45
  subst e46
  subst e47
  subst e48
  subst e49
  subst e50
  subst e51
  subst e52
  subst e53
  subst e54
  subst e55
  subst e56
  subst e57
  subst e58
  subst e59
  subst e60
  subst e61
  subst e62
  subst e63
  subst e64
  subst e65
  subst e66
  subst e67
  subst e68
  subst e69
  subst e70
  subst e71
  subst e72
  subst e73
  subst e74
  subst e75
  subst e76
  subst e77
  subst e78
  subst e79
  subst e80
  subst e81
  subst e82
  subst e83
  subst e84
  subst e85
  subst e86
  subst e87
  subst e88
  subst e89
  subst e90
  subst e91
  subst e92
  subst e93
  subst e94
  subst e95
  subst e96
  subst e97
  subst e98
  subst e99
  subst e100
  subst e101
  subst e102
  subst e103
  subst e104
  subst e105
  subst e106
  subst e107
  subst e108
  subst e109
  subst e110
  subst e111
  subst e112
  subst e113
  subst e114
  subst e115
  refine ⟨a, rfl, ?_, hD2⟩
  rw [S0X_eq, xW_r]
  unfold xtb
  refine xPr 1 rfl (xPo (by decide) (hP 0 _ rfl)) ?_
  refine xPr 2 rfl (xP5 (hP 1 _ rfl) (fun j hj => by
    have h2 : j = 0 ∨ j = 1 ∨ j = 2 ∨ j = 3 ∨ j = 4 ∨ j = 5 := by omega
    rcases h2 with rfl | rfl | rfl | rfl | rfl | rfl <;> rfl)) ?_
  refine xPr 3 rfl (xPo (by decide) (hP 2 _ rfl)) ?_
  refine xPr 4 rfl (xP0 (hP 3 _ rfl)) ?_
  refine xPr 5 rfl (xP0 (hP 4 _ rfl)) ?_
  refine xPr 6 rfl (xP0 (hP 5 _ rfl)) ?_
  refine xPr 7 rfl (xP0 (hP 6 _ rfl)) ?_
  refine xPr 8 rfl (xP0 (hP 7 _ rfl)) ?_
  refine xPr 9 rfl (xPo (by decide) (hP 8 _ rfl)) ?_
  refine xPr 10 rfl (xP0 (hP 9 _ rfl)) ?_
  refine xPr 11 rfl (xP0 (hP 10 _ rfl)) ?_
  refine xPr 12 rfl (xP0 (hP 11 _ rfl)) ?_
  refine xPr 13 rfl (xP0 (hP 12 _ rfl)) ?_
  refine xPr 14 rfl (xP0 (hP 13 _ rfl)) ?_
  refine xPr 15 rfl (xP0 (hP 14 _ rfl)) ?_
  refine xPr 16 rfl (xP0 (hP 15 _ rfl)) ?_
  refine xPr 17 rfl (xPo (by decide) (hP 16 _ rfl)) ?_
  refine xPr 18 rfl (xP0 (hP 17 _ rfl)) ?_
  refine xPr 19 rfl (xP0 (hP 18 _ rfl)) ?_
  refine xPr 20 rfl (xP0 (hP 19 _ rfl)) ?_
  refine xPr 21 rfl (xP0 (hP 20 _ rfl)) ?_
  refine xPr 22 rfl (xP0 (hP 21 _ rfl)) ?_
  refine xPr 23 rfl (xP0 (hP 22 _ rfl)) ?_
  refine xPr 24 rfl (xP0 (hP 23 _ rfl)) ?_
  refine xPr 25 rfl (xP0 (hP 24 _ rfl)) ?_
  refine xPr 26 rfl (xP0 (hP 25 _ rfl)) ?_
  refine xPr 27 rfl (xPo (by decide) (hP 26 _ rfl)) ?_
  refine xPr 28 rfl (xP0 (hP 27 _ rfl)) ?_
  refine xPr 29 rfl (xP0 (hP 28 _ rfl)) ?_
  refine xPr 30 rfl (xP0 (hP 29 _ rfl)) ?_
  refine xPr 31 rfl (xP0 (hP 30 _ rfl)) ?_
  refine xPr 32 rfl (xP0 (hP 31 _ rfl)) ?_
  refine xPr 33 rfl (xP0 (hP 32 _ rfl)) ?_
  refine xPr 34 rfl (xP0 (hP 33 _ rfl)) ?_
  refine xPr 35 rfl (xP0 (hP 34 _ rfl)) ?_
  refine xPr 36 rfl (xP0 (hP 35 _ rfl)) ?_
  refine xPr 37 rfl (xPo (by decide) (hP 36 _ rfl)) ?_
  refine xPr 38 rfl (xP0 (hP 37 _ rfl)) ?_
  refine xPr 39 rfl (xP0 (hP 38 _ rfl)) ?_
  refine xPr 40 rfl (xP0 (hP 39 _ rfl)) ?_
  refine xPr 41 rfl (xP0 (hP 40 _ rfl)) ?_
  refine xPr 42 rfl (xP0 (hP 41 _ rfl)) ?_
  refine xPr 43 rfl (xP0 (hP 42 _ rfl)) ?_
  refine xPr 44 rfl (xP0 (hP 43 _ rfl)) ?_
  refine xPr 45 rfl (xP0 (hP 44 _ rfl)) ?_
  refine xPr 46 rfl (xP0 (hP 45 _ rfl)) ?_
  refine xPr 47 rfl (xPo (by decide) (hP 55 _ rfl)) ?_
  refine xPr 48 rfl (xP0 (hP 56 _ rfl)) ?_
  refine xPr 49 rfl (xP0 (hP 57 _ rfl)) ?_
  refine xPr 50 rfl (xP0 (hP 58 _ rfl)) ?_
  refine xPr 51 rfl (xP0 (hP 59 _ rfl)) ?_
  refine xPr 52 rfl (xP0 (hP 60 _ rfl)) ?_
  refine xPr 53 rfl (xP0 (hP 61 _ rfl)) ?_
  refine xPr 54 rfl (xP0 (hP 62 _ rfl)) ?_
  refine xPr 55 rfl (xP0 (hP 63 _ rfl)) ?_
  refine xPr 56 rfl (xP0 (hP 64 _ rfl)) ?_
  refine xPr 57 rfl (xPo (by decide) (hP 65 _ rfl)) ?_
  refine xPr 58 rfl (xP0 (hP 66 _ rfl)) ?_
  refine xPr 59 rfl (xP0 (hP 67 _ rfl)) ?_
  refine xPr 60 rfl (xP0 (hP 68 _ rfl)) ?_
  refine xPr 61 rfl (xP0 (hP 69 _ rfl)) ?_
  refine xPr 62 rfl (xP0 (hP 70 _ rfl)) ?_
  refine xPr 63 rfl (xP0 (hP 71 _ rfl)) ?_
  refine xPr 64 rfl (xP0 (hP 72 _ rfl)) ?_
  refine xPr 65 rfl (xP0 (hP 73 _ rfl)) ?_
  refine xPr 66 rfl (xP0 (hP 74 _ rfl)) ?_
  refine xPr 67 rfl (xPo (by decide) (hP 75 _ rfl)) ?_
  refine xPr 68 rfl (xP0 (hP 76 _ rfl)) ?_
  refine xPr 69 rfl (xP0 (hP 77 _ rfl)) ?_
  refine xPr 70 rfl (xP0 (hP 78 _ rfl)) ?_
  refine xPr 71 rfl (xP0 (hP 79 _ rfl)) ?_
  refine xPr 72 rfl (xP0 (hP 80 _ rfl)) ?_
  refine xPr 73 rfl (xP0 (hP 81 _ rfl)) ?_
  refine xPr 74 rfl (xP0 (hP 82 _ rfl)) ?_
  refine xPr 75 rfl (xP0 (hP 83 _ rfl)) ?_
  refine xPr 76 rfl (xP0 (hP 84 _ rfl)) ?_
  refine xPr 77 rfl (xPo (by decide) (hP 85 _ rfl)) ?_
  refine xPr 78 rfl (xP0 (hP 86 _ rfl)) ?_
  refine xPr 79 rfl (xP0 (hP 87 _ rfl)) ?_
  refine xPr 80 rfl (xP0 (hP 88 _ rfl)) ?_
  refine xPr 81 rfl (xP0 (hP 89 _ rfl)) ?_
  refine xPr 82 rfl (xP0 (hP 90 _ rfl)) ?_
  refine xPr 83 rfl (xP0 (hP 91 _ rfl)) ?_
  refine xPr 84 rfl (xP0 (hP 92 _ rfl)) ?_
  refine xPr 85 rfl (xP0 (hP 93 _ rfl)) ?_
  refine xPr 86 rfl (xP0 (hP 94 _ rfl)) ?_
  refine xPr 87 rfl (xPo (by decide) (hP 46 _ rfl)) ?_
  refine xPr 88 rfl (xPo (by decide) (hP 47 _ rfl)) ?_
  refine xPr 89 rfl (xP0 (hP 48 _ rfl)) ?_
  refine xPr 90 rfl (xPo (by decide) (hP 49 _ rfl)) ?_
  refine xPr 91 rfl (xP0 (hP 50 _ rfl)) ?_
  refine xPr 92 rfl (xP0 (hP 51 _ rfl)) ?_
  refine xPr 93 rfl (xP0 (hP 52 _ rfl)) ?_
  refine xPr 94 rfl (xPo (by decide) (hP 53 _ rfl)) ?_
  refine xPr 95 rfl (xP4 (hP 54 _ rfl) (fun j hj => by
    have h2 : j = 0 ∨ j = 1 ∨ j = 2 ∨ j = 3 := by omega
    rcases h2 with rfl | rfl | rfl | rfl <;> rfl)) ?_
  refine xPr 96 rfl (xPo (by decide) (hP 95 _ rfl)) ?_
  refine xPr 97 rfl (xPo (by decide) (hP 96 _ rfl)) ?_
  refine xPr 98 rfl (xP0 (hP 97 _ rfl)) ?_
  refine xPr 99 rfl (xP0 (hP 98 _ rfl)) ?_
  refine xPr 100 rfl (xP0 (hP 99 _ rfl)) ?_
  refine xPr 101 rfl (xP0 (hP 100 _ rfl)) ?_
  refine xPr 102 rfl (xPo (by decide) (hP 101 _ rfl)) ?_
  refine xPr 103 rfl (xP0 (hP 102 _ rfl)) ?_
  refine xPr 104 rfl (xP0 (hP 103 _ rfl)) ?_
  refine xPr 105 rfl (xPo (by decide) (hP 104 _ rfl)) ?_
  refine xPr 106 rfl (xP3 (hP 105 _ rfl)) ?_
  refine xPr 107 rfl (xPo (by decide) (hP 106 _ rfl)) ?_
  refine xPr 108 rfl (xP3 (hP 107 _ rfl)) ?_
  refine xPr 109 rfl (xPo (by decide) (hP 108 _ rfl)) ?_
  refine xPr 110 rfl (xP3 (hP 109 _ rfl)) ?_
  refine xPr 111 rfl (xPo (by decide) (hP 110 _ rfl)) ?_
  refine xPr 112 rfl (xP3 (hP 111 _ rfl)) ?_
  refine xPr 113 rfl (xPo (by decide) (hP 112 _ rfl)) ?_
  refine xPr 114 rfl (xP3 (hP 113 _ rfl)) ?_
  refine xPr 115 rfl (xPo (by decide) (hP 114 _ rfl)) ?_
  refine xPr 116 rfl (xP3 (hP 115 _ rfl)) ?_
  exact fun k q h => by cases h
