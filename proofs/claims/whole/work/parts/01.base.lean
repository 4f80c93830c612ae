-- ===== PART A: goes FIRST, ahead of the names: the tables' words, and 'selects' of the private methods out of them =====
/-- a private method of a class that the tables say can be made, by its rows of tables_1 -/
def lw_okq (q : MethodName × Nat) : Prop := (q.1.cls ≠ "java/lang/invoke/MethodHandle" ∧ q.1.cls ≠ "java/lang/invoke/VarHandle") ∧ Cond.instantiable q.1.cls q.2 ∈ tables_1 ∧ Cond.privateMethod q.1 ∈ tables_1 ∧ Cond.instanceMethod q.1 ∈ tables_1
theorem lw_p0 : lw_okq (⟨"HotStack", "cartOne", "(III)I"⟩, 13) := ⟨⟨by decide +kernel, by decide +kernel⟩, List.mem_of_getElem? (i := 18) (by decide +kernel), List.mem_of_getElem? (i := 398) (by decide +kernel), List.mem_of_getElem? (i := 399) (by decide +kernel)⟩
theorem lw_p1 : lw_okq (⟨"HotStack", "cartFrom", "(LHotStack$Shelf;II)I"⟩, 13) := ⟨⟨by decide +kernel, by decide +kernel⟩, List.mem_of_getElem? (i := 18) (by decide +kernel), List.mem_of_getElem? (i := 417) (by decide +kernel), List.mem_of_getElem? (i := 418) (by decide +kernel)⟩
theorem lw_p2 : lw_okq (⟨"HotStack", "isNumber", "(II)Z"⟩, 13) := ⟨⟨by decide +kernel, by decide +kernel⟩, List.mem_of_getElem? (i := 18) (by decide +kernel), List.mem_of_getElem? (i := 427) (by decide +kernel), List.mem_of_getElem? (i := 428) (by decide +kernel)⟩
theorem lw_p3 : lw_okq (⟨"HotStack$Changes", "forgetFirst", "()V"⟩, 6) := ⟨⟨by decide +kernel, by decide +kernel⟩, List.mem_of_getElem? (i := 269) (by decide +kernel), List.mem_of_getElem? (i := 451) (by decide +kernel), List.mem_of_getElem? (i := 452) (by decide +kernel)⟩
theorem lw_p4 : lw_okq (⟨"HotStack$Tape", "readLine", "()V"⟩, 10) := ⟨⟨by decide +kernel, by decide +kernel⟩, List.mem_of_getElem? (i := 26) (by decide +kernel), List.mem_of_getElem? (i := 478) (by decide +kernel), List.mem_of_getElem? (i := 479) (by decide +kernel)⟩
theorem lw_p5 : lw_okq (⟨"HotStack$Tape", "readLevel", "(II)V"⟩, 10) := ⟨⟨by decide +kernel, by decide +kernel⟩, List.mem_of_getElem? (i := 26) (by decide +kernel), List.mem_of_getElem? (i := 482) (by decide +kernel), List.mem_of_getElem? (i := 483) (by decide +kernel)⟩
theorem lw_p6 : lw_okq (⟨"HotStack$Tape", "readUnit", "(I)V"⟩, 10) := ⟨⟨by decide +kernel, by decide +kernel⟩, List.mem_of_getElem? (i := 26) (by decide +kernel), List.mem_of_getElem? (i := 486) (by decide +kernel), List.mem_of_getElem? (i := 487) (by decide +kernel)⟩
theorem lw_p7 : lw_okq (⟨"HotStack$Tape", "next", "()I"⟩, 10) := ⟨⟨by decide +kernel, by decide +kernel⟩, List.mem_of_getElem? (i := 26) (by decide +kernel), List.mem_of_getElem? (i := 490) (by decide +kernel), List.mem_of_getElem? (i := 491) (by decide +kernel)⟩
theorem lw_p8 : lw_okq (⟨"HotStack$Tape", "readNumber", "()V"⟩, 10) := ⟨⟨by decide +kernel, by decide +kernel⟩, List.mem_of_getElem? (i := 26) (by decide +kernel), List.mem_of_getElem? (i := 497) (by decide +kernel), List.mem_of_getElem? (i := 498) (by decide +kernel)⟩
theorem lw_p9 : lw_okq (⟨"HotStack$Tape", "emit", "(II)V"⟩, 10) := ⟨⟨by decide +kernel, by decide +kernel⟩, List.mem_of_getElem? (i := 26) (by decide +kernel), List.mem_of_getElem? (i := 501) (by decide +kernel), List.mem_of_getElem? (i := 502) (by decide +kernel)⟩
theorem lw_p10 : lw_okq (⟨"HotStack$Tape", "readOpened", "(II)V"⟩, 10) := ⟨⟨by decide +kernel, by decide +kernel⟩, List.mem_of_getElem? (i := 26) (by decide +kernel), List.mem_of_getElem? (i := 505) (by decide +kernel), List.mem_of_getElem? (i := 506) (by decide +kernel)⟩
theorem lw_p11 : lw_okq (⟨"HotStack$Tape", "failHere", "()V"⟩, 10) := ⟨⟨by decide +kernel, by decide +kernel⟩, List.mem_of_getElem? (i := 26) (by decide +kernel), List.mem_of_getElem? (i := 509) (by decide +kernel), List.mem_of_getElem? (i := 510) (by decide +kernel)⟩
theorem lw_p12 : lw_okq (⟨"HotStack$Hay", "isBeyond", "(II)Z"⟩, 12) := ⟨⟨by decide +kernel, by decide +kernel⟩, List.mem_of_getElem? (i := 101) (by decide +kernel), List.mem_of_getElem? (i := 537) (by decide +kernel), List.mem_of_getElem? (i := 538) (by decide +kernel)⟩
theorem lw_p13 : lw_okq (⟨"HotStack$Law", "worked", "()I"⟩, 8) := ⟨⟨by decide +kernel, by decide +kernel⟩, List.mem_of_getElem? (i := 70) (by decide +kernel), List.mem_of_getElem? (i := 555) (by decide +kernel), List.mem_of_getElem? (i := 556) (by decide +kernel)⟩
theorem lw_p14 : lw_okq (⟨"HotStack$Law", "run", "(II)I"⟩, 8) := ⟨⟨by decide +kernel, by decide +kernel⟩, List.mem_of_getElem? (i := 70) (by decide +kernel), List.mem_of_getElem? (i := 559) (by decide +kernel), List.mem_of_getElem? (i := 560) (by decide +kernel)⟩
theorem lw_p15 : lw_okq (⟨"HotStack$Hay", "warm", "(II)V"⟩, 12) := ⟨⟨by decide +kernel, by decide +kernel⟩, List.mem_of_getElem? (i := 101) (by decide +kernel), List.mem_of_getElem? (i := 587) (by decide +kernel), List.mem_of_getElem? (i := 588) (by decide +kernel)⟩
def lw_privs_1 : List (MethodName × Nat) := [(⟨"HotStack", "cartOne", "(III)I"⟩, 13), (⟨"HotStack", "cartFrom", "(LHotStack$Shelf;II)I"⟩, 13), (⟨"HotStack", "isNumber", "(II)Z"⟩, 13), (⟨"HotStack$Changes", "forgetFirst", "()V"⟩, 6), (⟨"HotStack$Tape", "readLine", "()V"⟩, 10), (⟨"HotStack$Tape", "readLevel", "(II)V"⟩, 10), (⟨"HotStack$Tape", "readUnit", "(I)V"⟩, 10), (⟨"HotStack$Tape", "next", "()I"⟩, 10), (⟨"HotStack$Tape", "readNumber", "()V"⟩, 10), (⟨"HotStack$Tape", "emit", "(II)V"⟩, 10), (⟨"HotStack$Tape", "readOpened", "(II)V"⟩, 10), (⟨"HotStack$Tape", "failHere", "()V"⟩, 10), (⟨"HotStack$Hay", "isBeyond", "(II)Z"⟩, 12), (⟨"HotStack$Law", "worked", "()I"⟩, 8), (⟨"HotStack$Law", "run", "(II)I"⟩, 8), (⟨"HotStack$Hay", "warm", "(II)V"⟩, 12)]
theorem lw_r1 : ∀ q ∈ lw_privs_1, lw_okq q := List.forall_mem_cons.mpr ⟨lw_p0, List.forall_mem_cons.mpr ⟨lw_p1, List.forall_mem_cons.mpr ⟨lw_p2, List.forall_mem_cons.mpr ⟨lw_p3, List.forall_mem_cons.mpr ⟨lw_p4, List.forall_mem_cons.mpr ⟨lw_p5, List.forall_mem_cons.mpr ⟨lw_p6, List.forall_mem_cons.mpr ⟨lw_p7, List.forall_mem_cons.mpr ⟨lw_p8, List.forall_mem_cons.mpr ⟨lw_p9, List.forall_mem_cons.mpr ⟨lw_p10, List.forall_mem_cons.mpr ⟨lw_p11, List.forall_mem_cons.mpr ⟨lw_p12, List.forall_mem_cons.mpr ⟨lw_p13, List.forall_mem_cons.mpr ⟨lw_p14, List.forall_mem_cons.mpr ⟨lw_p15, fun _ h => absurd h List.not_mem_nil⟩⟩⟩⟩⟩⟩⟩⟩⟩⟩⟩⟩⟩⟩⟩⟩
theorem lw_p16 : lw_okq (⟨"HotStack$Rods", "place", "(III)V"⟩, 3) := ⟨⟨by decide +kernel, by decide +kernel⟩, List.mem_of_getElem? (i := 180) (by decide +kernel), List.mem_of_getElem? (i := 637) (by decide +kernel), List.mem_of_getElem? (i := 638) (by decide +kernel)⟩
theorem lw_p17 : lw_okq (⟨"HotStack$Thought", "forget", "()V"⟩, 4) := ⟨⟨by decide +kernel, by decide +kernel⟩, List.mem_of_getElem? (i := 159) (by decide +kernel), List.mem_of_getElem? (i := 664) (by decide +kernel), List.mem_of_getElem? (i := 665) (by decide +kernel)⟩
theorem lw_p18 : lw_okq (⟨"HotStack$Thought", "takeCooler", "(II)V"⟩, 4) := ⟨⟨by decide +kernel, by decide +kernel⟩, List.mem_of_getElem? (i := 159) (by decide +kernel), List.mem_of_getElem? (i := 679) (by decide +kernel), List.mem_of_getElem? (i := 680) (by decide +kernel)⟩
theorem lw_p19 : lw_okq (⟨"HotStack$Thought", "staysDarkIfTurned", "(I)Z"⟩, 4) := ⟨⟨by decide +kernel, by decide +kernel⟩, List.mem_of_getElem? (i := 159) (by decide +kernel), List.mem_of_getElem? (i := 701) (by decide +kernel), List.mem_of_getElem? (i := 702) (by decide +kernel)⟩
theorem lw_p20 : lw_okq (⟨"HotStack$Laying", "takeLoads", "(LHotStack$Shelf;)V"⟩, 7) := ⟨⟨by decide +kernel, by decide +kernel⟩, List.mem_of_getElem? (i := 197) (by decide +kernel), List.mem_of_getElem? (i := 715) (by decide +kernel), List.mem_of_getElem? (i := 716) (by decide +kernel)⟩
theorem lw_p21 : lw_okq (⟨"HotStack$Laying", "isRepeated", "()Z"⟩, 7) := ⟨⟨by decide +kernel, by decide +kernel⟩, List.mem_of_getElem? (i := 197) (by decide +kernel), List.mem_of_getElem? (i := 720) (by decide +kernel), List.mem_of_getElem? (i := 721) (by decide +kernel)⟩
theorem lw_p22 : lw_okq (⟨"HotStack$Laying", "weigh", "(I)V"⟩, 7) := ⟨⟨by decide +kernel, by decide +kernel⟩, List.mem_of_getElem? (i := 197) (by decide +kernel), List.mem_of_getElem? (i := 724) (by decide +kernel), List.mem_of_getElem? (i := 725) (by decide +kernel)⟩
theorem lw_p23 : lw_okq (⟨"HotStack$Laying", "goToNextOrder", "()Z"⟩, 7) := ⟨⟨by decide +kernel, by decide +kernel⟩, List.mem_of_getElem? (i := 197) (by decide +kernel), List.mem_of_getElem? (i := 732) (by decide +kernel), List.mem_of_getElem? (i := 733) (by decide +kernel)⟩
theorem lw_p24 : lw_okq (⟨"HotStack$Laying", "swap", "(II)V"⟩, 7) := ⟨⟨by decide +kernel, by decide +kernel⟩, List.mem_of_getElem? (i := 197) (by decide +kernel), List.mem_of_getElem? (i := 736) (by decide +kernel), List.mem_of_getElem? (i := 737) (by decide +kernel)⟩
theorem lw_p25 : lw_okq (⟨"HotStack$Books", "firstWrong", "(LHotStack$Shelf;I)I"⟩, 2) := ⟨⟨by decide +kernel, by decide +kernel⟩, List.mem_of_getElem? (i := 256) (by decide +kernel), List.mem_of_getElem? (i := 778) (by decide +kernel), List.mem_of_getElem? (i := 779) (by decide +kernel)⟩
theorem lw_p26 : lw_okq (⟨"HotStack$Game", "outcome", "(III)I"⟩, 6) := ⟨⟨by decide +kernel, by decide +kernel⟩, List.mem_of_getElem? (i := 226) (by decide +kernel), List.mem_of_getElem? (i := 810) (by decide +kernel), List.mem_of_getElem? (i := 811) (by decide +kernel)⟩
theorem lw_p27 : lw_okq (⟨"HotStack$Bodies", "begin", "(IIII)I"⟩, 5) := ⟨⟨by decide +kernel, by decide +kernel⟩, List.mem_of_getElem? (i := 295) (by decide +kernel), List.mem_of_getElem? (i := 904) (by decide +kernel), List.mem_of_getElem? (i := 905) (by decide +kernel)⟩
theorem lw_p28 : lw_okq (⟨"HotStack$Bodies", "run", "(IIII)I"⟩, 5) := ⟨⟨by decide +kernel, by decide +kernel⟩, List.mem_of_getElem? (i := 295) (by decide +kernel), List.mem_of_getElem? (i := 912) (by decide +kernel), List.mem_of_getElem? (i := 913) (by decide +kernel)⟩
theorem lw_p29 : lw_okq (⟨"HotStackModel", "addLoad", "(III)I"⟩, 61) := ⟨⟨by decide +kernel, by decide +kernel⟩, List.mem_of_getElem? (i := 991) (by decide +kernel), List.mem_of_getElem? (i := 1192) (by decide +kernel), List.mem_of_getElem? (i := 1193) (by decide +kernel)⟩
theorem lw_p30 : lw_okq (⟨"HotStackModel", "lays", "(III)V"⟩, 61) := ⟨⟨by decide +kernel, by decide +kernel⟩, List.mem_of_getElem? (i := 991) (by decide +kernel), List.mem_of_getElem? (i := 1208) (by decide +kernel), List.mem_of_getElem? (i := 1209) (by decide +kernel)⟩
theorem lw_p31 : lw_okq (⟨"HotStackModel", "isPlace", "(II)Z"⟩, 61) := ⟨⟨by decide +kernel, by decide +kernel⟩, List.mem_of_getElem? (i := 991) (by decide +kernel), List.mem_of_getElem? (i := 1220) (by decide +kernel), List.mem_of_getElem? (i := 1221) (by decide +kernel)⟩
def lw_privs_2 : List (MethodName × Nat) := [(⟨"HotStack$Rods", "place", "(III)V"⟩, 3), (⟨"HotStack$Thought", "forget", "()V"⟩, 4), (⟨"HotStack$Thought", "takeCooler", "(II)V"⟩, 4), (⟨"HotStack$Thought", "staysDarkIfTurned", "(I)Z"⟩, 4), (⟨"HotStack$Laying", "takeLoads", "(LHotStack$Shelf;)V"⟩, 7), (⟨"HotStack$Laying", "isRepeated", "()Z"⟩, 7), (⟨"HotStack$Laying", "weigh", "(I)V"⟩, 7), (⟨"HotStack$Laying", "goToNextOrder", "()Z"⟩, 7), (⟨"HotStack$Laying", "swap", "(II)V"⟩, 7), (⟨"HotStack$Books", "firstWrong", "(LHotStack$Shelf;I)I"⟩, 2), (⟨"HotStack$Game", "outcome", "(III)I"⟩, 6), (⟨"HotStack$Bodies", "begin", "(IIII)I"⟩, 5), (⟨"HotStack$Bodies", "run", "(IIII)I"⟩, 5), (⟨"HotStackModel", "addLoad", "(III)I"⟩, 61), (⟨"HotStackModel", "lays", "(III)V"⟩, 61), (⟨"HotStackModel", "isPlace", "(II)Z"⟩, 61)]
theorem lw_r2 : ∀ q ∈ lw_privs_2, lw_okq q := List.forall_mem_cons.mpr ⟨lw_p16, List.forall_mem_cons.mpr ⟨lw_p17, List.forall_mem_cons.mpr ⟨lw_p18, List.forall_mem_cons.mpr ⟨lw_p19, List.forall_mem_cons.mpr ⟨lw_p20, List.forall_mem_cons.mpr ⟨lw_p21, List.forall_mem_cons.mpr ⟨lw_p22, List.forall_mem_cons.mpr ⟨lw_p23, List.forall_mem_cons.mpr ⟨lw_p24, List.forall_mem_cons.mpr ⟨lw_p25, List.forall_mem_cons.mpr ⟨lw_p26, List.forall_mem_cons.mpr ⟨lw_p27, List.forall_mem_cons.mpr ⟨lw_p28, List.forall_mem_cons.mpr ⟨lw_p29, List.forall_mem_cons.mpr ⟨lw_p30, List.forall_mem_cons.mpr ⟨lw_p31, fun _ h => absurd h List.not_mem_nil⟩⟩⟩⟩⟩⟩⟩⟩⟩⟩⟩⟩⟩⟩⟩⟩
theorem lw_p32 : lw_okq (⟨"HotStackModel", "isCell", "(I)Z"⟩, 61) := ⟨⟨by decide +kernel, by decide +kernel⟩, List.mem_of_getElem? (i := 991) (by decide +kernel), List.mem_of_getElem? (i := 1224) (by decide +kernel), List.mem_of_getElem? (i := 1225) (by decide +kernel)⟩
theorem lw_p33 : lw_okq (⟨"HotStackModel", "changes", "(III)I"⟩, 61) := ⟨⟨by decide +kernel, by decide +kernel⟩, List.mem_of_getElem? (i := 991) (by decide +kernel), List.mem_of_getElem? (i := 1231) (by decide +kernel), List.mem_of_getElem? (i := 1232) (by decide +kernel)⟩
theorem lw_p34 : lw_okq (⟨"HotStackModel", "valueAt", "(II)I"⟩, 61) := ⟨⟨by decide +kernel, by decide +kernel⟩, List.mem_of_getElem? (i := 991) (by decide +kernel), List.mem_of_getElem? (i := 1235) (by decide +kernel), List.mem_of_getElem? (i := 1236) (by decide +kernel)⟩
theorem lw_p35 : lw_okq (⟨"HotStackModel", "readText", "(I)I"⟩, 61) := ⟨⟨by decide +kernel, by decide +kernel⟩, List.mem_of_getElem? (i := 991) (by decide +kernel), List.mem_of_getElem? (i := 1251) (by decide +kernel), List.mem_of_getElem? (i := 1252) (by decide +kernel)⟩
theorem lw_p36 : lw_okq (⟨"HotStackModel", "line", "()V"⟩, 61) := ⟨⟨by decide +kernel, by decide +kernel⟩, List.mem_of_getElem? (i := 991) (by decide +kernel), List.mem_of_getElem? (i := 1255) (by decide +kernel), List.mem_of_getElem? (i := 1256) (by decide +kernel)⟩
theorem lw_p37 : lw_okq (⟨"HotStackModel", "either", "()V"⟩, 61) := ⟨⟨by decide +kernel, by decide +kernel⟩, List.mem_of_getElem? (i := 991) (by decide +kernel), List.mem_of_getElem? (i := 1259) (by decide +kernel), List.mem_of_getElem? (i := 1260) (by decide +kernel)⟩
theorem lw_p38 : lw_okq (⟨"HotStackModel", "both", "()V"⟩, 61) := ⟨⟨by decide +kernel, by decide +kernel⟩, List.mem_of_getElem? (i := 991) (by decide +kernel), List.mem_of_getElem? (i := 1263) (by decide +kernel), List.mem_of_getElem? (i := 1264) (by decide +kernel)⟩
theorem lw_p39 : lw_okq (⟨"HotStackModel", "compared", "()V"⟩, 61) := ⟨⟨by decide +kernel, by decide +kernel⟩, List.mem_of_getElem? (i := 991) (by decide +kernel), List.mem_of_getElem? (i := 1267) (by decide +kernel), List.mem_of_getElem? (i := 1268) (by decide +kernel)⟩
theorem lw_p40 : lw_okq (⟨"HotStackModel", "sum", "()V"⟩, 61) := ⟨⟨by decide +kernel, by decide +kernel⟩, List.mem_of_getElem? (i := 991) (by decide +kernel), List.mem_of_getElem? (i := 1271) (by decide +kernel), List.mem_of_getElem? (i := 1272) (by decide +kernel)⟩
theorem lw_p41 : lw_okq (⟨"HotStackModel", "product", "()V"⟩, 61) := ⟨⟨by decide +kernel, by decide +kernel⟩, List.mem_of_getElem? (i := 991) (by decide +kernel), List.mem_of_getElem? (i := 1275) (by decide +kernel), List.mem_of_getElem? (i := 1276) (by decide +kernel)⟩
theorem lw_p42 : lw_okq (⟨"HotStackModel", "operand", "()V"⟩, 61) := ⟨⟨by decide +kernel, by decide +kernel⟩, List.mem_of_getElem? (i := 991) (by decide +kernel), List.mem_of_getElem? (i := 1279) (by decide +kernel), List.mem_of_getElem? (i := 1280) (by decide +kernel)⟩
theorem lw_p43 : lw_okq (⟨"HotStackModel", "look", "()I"⟩, 61) := ⟨⟨by decide +kernel, by decide +kernel⟩, List.mem_of_getElem? (i := 991) (by decide +kernel), List.mem_of_getElem? (i := 1283) (by decide +kernel), List.mem_of_getElem? (i := 1284) (by decide +kernel)⟩
theorem lw_p44 : lw_okq (⟨"HotStackModel", "addStep", "(II)V"⟩, 61) := ⟨⟨by decide +kernel, by decide +kernel⟩, List.mem_of_getElem? (i := 991) (by decide +kernel), List.mem_of_getElem? (i := 1290) (by decide +kernel), List.mem_of_getElem? (i := 1291) (by decide +kernel)⟩
theorem lw_p45 : lw_okq (⟨"HotStackModel", "opens", "()Z"⟩, 61) := ⟨⟨by decide +kernel, by decide +kernel⟩, List.mem_of_getElem? (i := 991) (by decide +kernel), List.mem_of_getElem? (i := 1294) (by decide +kernel), List.mem_of_getElem? (i := 1295) (by decide +kernel)⟩
theorem lw_p46 : lw_okq (⟨"HotStackModel", "wrong", "()V"⟩, 61) := ⟨⟨by decide +kernel, by decide +kernel⟩, List.mem_of_getElem? (i := 991) (by decide +kernel), List.mem_of_getElem? (i := 1298) (by decide +kernel), List.mem_of_getElem? (i := 1299) (by decide +kernel)⟩
theorem lw_p47 : lw_okq (⟨"HotStackModel", "figure", "()V"⟩, 61) := ⟨⟨by decide +kernel, by decide +kernel⟩, List.mem_of_getElem? (i := 991) (by decide +kernel), List.mem_of_getElem? (i := 1302) (by decide +kernel), List.mem_of_getElem? (i := 1303) (by decide +kernel)⟩
def lw_privs_3 : List (MethodName × Nat) := [(⟨"HotStackModel", "isCell", "(I)Z"⟩, 61), (⟨"HotStackModel", "changes", "(III)I"⟩, 61), (⟨"HotStackModel", "valueAt", "(II)I"⟩, 61), (⟨"HotStackModel", "readText", "(I)I"⟩, 61), (⟨"HotStackModel", "line", "()V"⟩, 61), (⟨"HotStackModel", "either", "()V"⟩, 61), (⟨"HotStackModel", "both", "()V"⟩, 61), (⟨"HotStackModel", "compared", "()V"⟩, 61), (⟨"HotStackModel", "sum", "()V"⟩, 61), (⟨"HotStackModel", "product", "()V"⟩, 61), (⟨"HotStackModel", "operand", "()V"⟩, 61), (⟨"HotStackModel", "look", "()I"⟩, 61), (⟨"HotStackModel", "addStep", "(II)V"⟩, 61), (⟨"HotStackModel", "opens", "()Z"⟩, 61), (⟨"HotStackModel", "wrong", "()V"⟩, 61), (⟨"HotStackModel", "figure", "()V"⟩, 61)]
theorem lw_r3 : ∀ q ∈ lw_privs_3, lw_okq q := List.forall_mem_cons.mpr ⟨lw_p32, List.forall_mem_cons.mpr ⟨lw_p33, List.forall_mem_cons.mpr ⟨lw_p34, List.forall_mem_cons.mpr ⟨lw_p35, List.forall_mem_cons.mpr ⟨lw_p36, List.forall_mem_cons.mpr ⟨lw_p37, List.forall_mem_cons.mpr ⟨lw_p38, List.forall_mem_cons.mpr ⟨lw_p39, List.forall_mem_cons.mpr ⟨lw_p40, List.forall_mem_cons.mpr ⟨lw_p41, List.forall_mem_cons.mpr ⟨lw_p42, List.forall_mem_cons.mpr ⟨lw_p43, List.forall_mem_cons.mpr ⟨lw_p44, List.forall_mem_cons.mpr ⟨lw_p45, List.forall_mem_cons.mpr ⟨lw_p46, List.forall_mem_cons.mpr ⟨lw_p47, fun _ h => absurd h List.not_mem_nil⟩⟩⟩⟩⟩⟩⟩⟩⟩⟩⟩⟩⟩⟩⟩⟩
theorem lw_p48 : lw_okq (⟨"HotStackModel", "layNow", "()V"⟩, 61) := ⟨⟨by decide +kernel, by decide +kernel⟩, List.mem_of_getElem? (i := 991) (by decide +kernel), List.mem_of_getElem? (i := 1311) (by decide +kernel), List.mem_of_getElem? (i := 1312) (by decide +kernel)⟩
theorem lw_p49 : lw_okq (⟨"HotStackModel", "heatsBy", "(I)I"⟩, 61) := ⟨⟨by decide +kernel, by decide +kernel⟩, List.mem_of_getElem? (i := 991) (by decide +kernel), List.mem_of_getElem? (i := 1315) (by decide +kernel), List.mem_of_getElem? (i := 1316) (by decide +kernel)⟩
theorem lw_p50 : lw_okq (⟨"HotStackModel", "airOf", "(I)I"⟩, 61) := ⟨⟨by decide +kernel, by decide +kernel⟩, List.mem_of_getElem? (i := 991) (by decide +kernel), List.mem_of_getElem? (i := 1319) (by decide +kernel), List.mem_of_getElem? (i := 1320) (by decide +kernel)⟩
theorem lw_p51 : lw_okq (⟨"HotStackModel", "beside", "(II)I"⟩, 61) := ⟨⟨by decide +kernel, by decide +kernel⟩, List.mem_of_getElem? (i := 991) (by decide +kernel), List.mem_of_getElem? (i := 1323) (by decide +kernel), List.mem_of_getElem? (i := 1324) (by decide +kernel)⟩
theorem lw_p52 : lw_okq (⟨"HotStackModel", "isThere", "(II)Z"⟩, 61) := ⟨⟨by decide +kernel, by decide +kernel⟩, List.mem_of_getElem? (i := 991) (by decide +kernel), List.mem_of_getElem? (i := 1327) (by decide +kernel), List.mem_of_getElem? (i := 1328) (by decide +kernel)⟩
theorem lw_p53 : lw_okq (⟨"HotStackModel", "meanBeside", "(I)I"⟩, 61) := ⟨⟨by decide +kernel, by decide +kernel⟩, List.mem_of_getElem? (i := 991) (by decide +kernel), List.mem_of_getElem? (i := 1331) (by decide +kernel), List.mem_of_getElem? (i := 1332) (by decide +kernel)⟩
theorem lw_p54 : lw_okq (⟨"HotStackModel", "gives", "(I)I"⟩, 61) := ⟨⟨by decide +kernel, by decide +kernel⟩, List.mem_of_getElem? (i := 991) (by decide +kernel), List.mem_of_getElem? (i := 1335) (by decide +kernel), List.mem_of_getElem? (i := 1336) (by decide +kernel)⟩
theorem lw_p55 : lw_okq (⟨"HotStackModel", "worked", "(III)I"⟩, 61) := ⟨⟨by decide +kernel, by decide +kernel⟩, List.mem_of_getElem? (i := 991) (by decide +kernel), List.mem_of_getElem? (i := 1339) (by decide +kernel), List.mem_of_getElem? (i := 1340) (by decide +kernel)⟩
theorem lw_p56 : lw_okq (⟨"HotStackModel", "goDays", "(I)V"⟩, 61) := ⟨⟨by decide +kernel, by decide +kernel⟩, List.mem_of_getElem? (i := 991) (by decide +kernel), List.mem_of_getElem? (i := 1353) (by decide +kernel), List.mem_of_getElem? (i := 1354) (by decide +kernel)⟩
theorem lw_p57 : lw_okq (⟨"HotStackModel", "goDay", "()V"⟩, 61) := ⟨⟨by decide +kernel, by decide +kernel⟩, List.mem_of_getElem? (i := 991) (by decide +kernel), List.mem_of_getElem? (i := 1357) (by decide +kernel), List.mem_of_getElem? (i := 1358) (by decide +kernel)⟩
theorem lw_p58 : lw_okq (⟨"HotStackModel", "isThereNow", "(I)Z"⟩, 61) := ⟨⟨by decide +kernel, by decide +kernel⟩, List.mem_of_getElem? (i := 991) (by decide +kernel), List.mem_of_getElem? (i := 1361) (by decide +kernel), List.mem_of_getElem? (i := 1362) (by decide +kernel)⟩
theorem lw_p59 : lw_okq (⟨"HotStackModel", "hottest", "()I"⟩, 61) := ⟨⟨by decide +kernel, by decide +kernel⟩, List.mem_of_getElem? (i := 991) (by decide +kernel), List.mem_of_getElem? (i := 1369) (by decide +kernel), List.mem_of_getElem? (i := 1370) (by decide +kernel)⟩
theorem lw_p60 : lw_okq (⟨"HotStackModel", "hottestHeat", "()I"⟩, 61) := ⟨⟨by decide +kernel, by decide +kernel⟩, List.mem_of_getElem? (i := 991) (by decide +kernel), List.mem_of_getElem? (i := 1373) (by decide +kernel), List.mem_of_getElem? (i := 1374) (by decide +kernel)⟩
theorem lw_p61 : lw_okq (⟨"HotStackModel", "glowMany", "()I"⟩, 61) := ⟨⟨by decide +kernel, by decide +kernel⟩, List.mem_of_getElem? (i := 991) (by decide +kernel), List.mem_of_getElem? (i := 1377) (by decide +kernel), List.mem_of_getElem? (i := 1378) (by decide +kernel)⟩
theorem lw_p62 : lw_okq (⟨"HotStackModel", "allGood", "()I"⟩, 61) := ⟨⟨by decide +kernel, by decide +kernel⟩, List.mem_of_getElem? (i := 991) (by decide +kernel), List.mem_of_getElem? (i := 1381) (by decide +kernel), List.mem_of_getElem? (i := 1382) (by decide +kernel)⟩
theorem lw_p63 : lw_okq (⟨"HotStackModel", "findRods", "(I)I"⟩, 61) := ⟨⟨by decide +kernel, by decide +kernel⟩, List.mem_of_getElem? (i := 991) (by decide +kernel), List.mem_of_getElem? (i := 1393) (by decide +kernel), List.mem_of_getElem? (i := 1394) (by decide +kernel)⟩
def lw_privs_4 : List (MethodName × Nat) := [(⟨"HotStackModel", "layNow", "()V"⟩, 61), (⟨"HotStackModel", "heatsBy", "(I)I"⟩, 61), (⟨"HotStackModel", "airOf", "(I)I"⟩, 61), (⟨"HotStackModel", "beside", "(II)I"⟩, 61), (⟨"HotStackModel", "isThere", "(II)Z"⟩, 61), (⟨"HotStackModel", "meanBeside", "(I)I"⟩, 61), (⟨"HotStackModel", "gives", "(I)I"⟩, 61), (⟨"HotStackModel", "worked", "(III)I"⟩, 61), (⟨"HotStackModel", "goDays", "(I)V"⟩, 61), (⟨"HotStackModel", "goDay", "()V"⟩, 61), (⟨"HotStackModel", "isThereNow", "(I)Z"⟩, 61), (⟨"HotStackModel", "hottest", "()I"⟩, 61), (⟨"HotStackModel", "hottestHeat", "()I"⟩, 61), (⟨"HotStackModel", "glowMany", "()I"⟩, 61), (⟨"HotStackModel", "allGood", "()I"⟩, 61), (⟨"HotStackModel", "findRods", "(I)I"⟩, 61)]
theorem lw_r4 : ∀ q ∈ lw_privs_4, lw_okq q := List.forall_mem_cons.mpr ⟨lw_p48, List.forall_mem_cons.mpr ⟨lw_p49, List.forall_mem_cons.mpr ⟨lw_p50, List.forall_mem_cons.mpr ⟨lw_p51, List.forall_mem_cons.mpr ⟨lw_p52, List.forall_mem_cons.mpr ⟨lw_p53, List.forall_mem_cons.mpr ⟨lw_p54, List.forall_mem_cons.mpr ⟨lw_p55, List.forall_mem_cons.mpr ⟨lw_p56, List.forall_mem_cons.mpr ⟨lw_p57, List.forall_mem_cons.mpr ⟨lw_p58, List.forall_mem_cons.mpr ⟨lw_p59, List.forall_mem_cons.mpr ⟨lw_p60, List.forall_mem_cons.mpr ⟨lw_p61, List.forall_mem_cons.mpr ⟨lw_p62, List.forall_mem_cons.mpr ⟨lw_p63, fun _ h => absurd h List.not_mem_nil⟩⟩⟩⟩⟩⟩⟩⟩⟩⟩⟩⟩⟩⟩⟩⟩
theorem lw_p64 : lw_okq (⟨"HotStackModel", "goRods", "(IIJJ)V"⟩, 61) := ⟨⟨by decide +kernel, by decide +kernel⟩, List.mem_of_getElem? (i := 991) (by decide +kernel), List.mem_of_getElem? (i := 1398) (by decide +kernel), List.mem_of_getElem? (i := 1399) (by decide +kernel)⟩
theorem lw_p65 : lw_okq (⟨"HotStackModel", "reachOf", "(I)J"⟩, 61) := ⟨⟨by decide +kernel, by decide +kernel⟩, List.mem_of_getElem? (i := 991) (by decide +kernel), List.mem_of_getElem? (i := 1402) (by decide +kernel), List.mem_of_getElem? (i := 1403) (by decide +kernel)⟩
theorem lw_p66 : lw_okq (⟨"HotStackModel", "hottestBy", "(II)I"⟩, 61) := ⟨⟨by decide +kernel, by decide +kernel⟩, List.mem_of_getElem? (i := 991) (by decide +kernel), List.mem_of_getElem? (i := 1419) (by decide +kernel), List.mem_of_getElem? (i := 1420) (by decide +kernel)⟩
theorem lw_p67 : lw_okq (⟨"HotStackModel", "turnNow", "(I)V"⟩, 61) := ⟨⟨by decide +kernel, by decide +kernel⟩, List.mem_of_getElem? (i := 991) (by decide +kernel), List.mem_of_getElem? (i := 1426) (by decide +kernel), List.mem_of_getElem? (i := 1427) (by decide +kernel)⟩
theorem lw_p68 : lw_okq (⟨"HotStackModel", "staysCool", "(I)Z"⟩, 61) := ⟨⟨by decide +kernel, by decide +kernel⟩, List.mem_of_getElem? (i := 991) (by decide +kernel), List.mem_of_getElem? (i := 1438) (by decide +kernel), List.mem_of_getElem? (i := 1439) (by decide +kernel)⟩
theorem lw_p69 : lw_okq (⟨"HotStackModel", "rowFault", "(I)I"⟩, 61) := ⟨⟨by decide +kernel, by decide +kernel⟩, List.mem_of_getElem? (i := 991) (by decide +kernel), List.mem_of_getElem? (i := 1446) (by decide +kernel), List.mem_of_getElem? (i := 1447) (by decide +kernel)⟩
theorem lw_p70 : lw_okq (⟨"HotStackModel", "at", "(II)I"⟩, 61) := ⟨⟨by decide +kernel, by decide +kernel⟩, List.mem_of_getElem? (i := 991) (by decide +kernel), List.mem_of_getElem? (i := 1450) (by decide +kernel), List.mem_of_getElem? (i := 1451) (by decide +kernel)⟩
theorem lw_p71 : lw_okq (⟨"HotStackModel", "goLay", "(IIII)V"⟩, 61) := ⟨⟨by decide +kernel, by decide +kernel⟩, List.mem_of_getElem? (i := 991) (by decide +kernel), List.mem_of_getElem? (i := 1454) (by decide +kernel), List.mem_of_getElem? (i := 1455) (by decide +kernel)⟩
theorem lw_p72 : lw_okq (⟨"HotStackModel", "worthNow", "()I"⟩, 61) := ⟨⟨by decide +kernel, by decide +kernel⟩, List.mem_of_getElem? (i := 991) (by decide +kernel), List.mem_of_getElem? (i := 1462) (by decide +kernel), List.mem_of_getElem? (i := 1463) (by decide +kernel)⟩
theorem lw_p73 : lw_okq (⟨"HotStackModel", "goneOf", "(I)I"⟩, 61) := ⟨⟨by decide +kernel, by decide +kernel⟩, List.mem_of_getElem? (i := 991) (by decide +kernel), List.mem_of_getElem? (i := 1474) (by decide +kernel), List.mem_of_getElem? (i := 1475) (by decide +kernel)⟩
theorem lw_p74 : lw_okq (⟨"HotStackModel", "wrongDay", "(II)I"⟩, 61) := ⟨⟨by decide +kernel, by decide +kernel⟩, List.mem_of_getElem? (i := 991) (by decide +kernel), List.mem_of_getElem? (i := 1482) (by decide +kernel), List.mem_of_getElem? (i := 1483) (by decide +kernel)⟩
theorem lw_p75 : lw_okq (⟨"HotStackModel", "saltedBits", "(III)I"⟩, 61) := ⟨⟨by decide +kernel, by decide +kernel⟩, List.mem_of_getElem? (i := 991) (by decide +kernel), List.mem_of_getElem? (i := 1490) (by decide +kernel), List.mem_of_getElem? (i := 1491) (by decide +kernel)⟩
theorem lw_p76 : lw_okq (⟨"HotStackModel", "bestOf", "(I)I"⟩, 61) := ⟨⟨by decide +kernel, by decide +kernel⟩, List.mem_of_getElem? (i := 991) (by decide +kernel), List.mem_of_getElem? (i := 1498) (by decide +kernel), List.mem_of_getElem? (i := 1499) (by decide +kernel)⟩
theorem lw_p77 : lw_okq (⟨"HotStackModel", "endsHot", "()I"⟩, 61) := ⟨⟨by decide +kernel, by decide +kernel⟩, List.mem_of_getElem? (i := 991) (by decide +kernel), List.mem_of_getElem? (i := 1502) (by decide +kernel), List.mem_of_getElem? (i := 1503) (by decide +kernel)⟩
theorem lw_p78 : lw_okq (⟨"HotStackModel", "wetNow", "(I)V"⟩, 61) := ⟨⟨by decide +kernel, by decide +kernel⟩, List.mem_of_getElem? (i := 991) (by decide +kernel), List.mem_of_getElem? (i := 1506) (by decide +kernel), List.mem_of_getElem? (i := 1507) (by decide +kernel)⟩
theorem lw_p79 : lw_okq (⟨"HotStackModel", "byDeed", "(II)I"⟩, 61) := ⟨⟨by decide +kernel, by decide +kernel⟩, List.mem_of_getElem? (i := 991) (by decide +kernel), List.mem_of_getElem? (i := 1510) (by decide +kernel), List.mem_of_getElem? (i := 1511) (by decide +kernel)⟩
def lw_privs_5 : List (MethodName × Nat) := [(⟨"HotStackModel", "goRods", "(IIJJ)V"⟩, 61), (⟨"HotStackModel", "reachOf", "(I)J"⟩, 61), (⟨"HotStackModel", "hottestBy", "(II)I"⟩, 61), (⟨"HotStackModel", "turnNow", "(I)V"⟩, 61), (⟨"HotStackModel", "staysCool", "(I)Z"⟩, 61), (⟨"HotStackModel", "rowFault", "(I)I"⟩, 61), (⟨"HotStackModel", "at", "(II)I"⟩, 61), (⟨"HotStackModel", "goLay", "(IIII)V"⟩, 61), (⟨"HotStackModel", "worthNow", "()I"⟩, 61), (⟨"HotStackModel", "goneOf", "(I)I"⟩, 61), (⟨"HotStackModel", "wrongDay", "(II)I"⟩, 61), (⟨"HotStackModel", "saltedBits", "(III)I"⟩, 61), (⟨"HotStackModel", "bestOf", "(I)I"⟩, 61), (⟨"HotStackModel", "endsHot", "()I"⟩, 61), (⟨"HotStackModel", "wetNow", "(I)V"⟩, 61), (⟨"HotStackModel", "byDeed", "(II)I"⟩, 61)]
theorem lw_r5 : ∀ q ∈ lw_privs_5, lw_okq q := List.forall_mem_cons.mpr ⟨lw_p64, List.forall_mem_cons.mpr ⟨lw_p65, List.forall_mem_cons.mpr ⟨lw_p66, List.forall_mem_cons.mpr ⟨lw_p67, List.forall_mem_cons.mpr ⟨lw_p68, List.forall_mem_cons.mpr ⟨lw_p69, List.forall_mem_cons.mpr ⟨lw_p70, List.forall_mem_cons.mpr ⟨lw_p71, List.forall_mem_cons.mpr ⟨lw_p72, List.forall_mem_cons.mpr ⟨lw_p73, List.forall_mem_cons.mpr ⟨lw_p74, List.forall_mem_cons.mpr ⟨lw_p75, List.forall_mem_cons.mpr ⟨lw_p76, List.forall_mem_cons.mpr ⟨lw_p77, List.forall_mem_cons.mpr ⟨lw_p78, List.forall_mem_cons.mpr ⟨lw_p79, fun _ h => absurd h List.not_mem_nil⟩⟩⟩⟩⟩⟩⟩⟩⟩⟩⟩⟩⟩⟩⟩⟩
theorem lw_p80 : lw_okq (⟨"HotStackModel", "layBack", "()V"⟩, 61) := ⟨⟨by decide +kernel, by decide +kernel⟩, List.mem_of_getElem? (i := 991) (by decide +kernel), List.mem_of_getElem? (i := 1523) (by decide +kernel), List.mem_of_getElem? (i := 1524) (by decide +kernel)⟩
theorem lw_p81 : lw_okq (⟨"HotStackModel", "isBody", "(I)Z"⟩, 61) := ⟨⟨by decide +kernel, by decide +kernel⟩, List.mem_of_getElem? (i := 991) (by decide +kernel), List.mem_of_getElem? (i := 1563) (by decide +kernel), List.mem_of_getElem? (i := 1564) (by decide +kernel)⟩
theorem lw_p82 : lw_okq (⟨"HotStackModel", "reading", "(II)I"⟩, 61) := ⟨⟨by decide +kernel, by decide +kernel⟩, List.mem_of_getElem? (i := 991) (by decide +kernel), List.mem_of_getElem? (i := 1567) (by decide +kernel), List.mem_of_getElem? (i := 1568) (by decide +kernel)⟩
theorem lw_p83 : lw_okq (⟨"HotStackModel", "ran", "(I)V"⟩, 61) := ⟨⟨by decide +kernel, by decide +kernel⟩, List.mem_of_getElem? (i := 991) (by decide +kernel), List.mem_of_getElem? (i := 1574) (by decide +kernel), List.mem_of_getElem? (i := 1575) (by decide +kernel)⟩
theorem lw_p84 : lw_okq (⟨"HotStackModel", "plainReads", "(II)I"⟩, 61) := ⟨⟨by decide +kernel, by decide +kernel⟩, List.mem_of_getElem? (i := 991) (by decide +kernel), List.mem_of_getElem? (i := 1578) (by decide +kernel), List.mem_of_getElem? (i := 1579) (by decide +kernel)⟩
theorem lw_p85 : lw_okq (⟨"HotStackModel", "saltReads", "(II)I"⟩, 61) := ⟨⟨by decide +kernel, by decide +kernel⟩, List.mem_of_getElem? (i := 991) (by decide +kernel), List.mem_of_getElem? (i := 1582) (by decide +kernel), List.mem_of_getElem? (i := 1583) (by decide +kernel)⟩
theorem lw_p86 : lw_okq (⟨"HotStackModel", "heating", "(II)I"⟩, 61) := ⟨⟨by decide +kernel, by decide +kernel⟩, List.mem_of_getElem? (i := 991) (by decide +kernel), List.mem_of_getElem? (i := 1586) (by decide +kernel), List.mem_of_getElem? (i := 1587) (by decide +kernel)⟩
theorem lw_p87 : lw_okq (⟨"HotStackModel", "smokeHeats", "(II)I"⟩, 61) := ⟨⟨by decide +kernel, by decide +kernel⟩, List.mem_of_getElem? (i := 991) (by decide +kernel), List.mem_of_getElem? (i := 1590) (by decide +kernel), List.mem_of_getElem? (i := 1591) (by decide +kernel)⟩
theorem lw_p88 : lw_okq (⟨"HotStackModel", "plainHeats", "(II)I"⟩, 61) := ⟨⟨by decide +kernel, by decide +kernel⟩, List.mem_of_getElem? (i := 991) (by decide +kernel), List.mem_of_getElem? (i := 1594) (by decide +kernel), List.mem_of_getElem? (i := 1595) (by decide +kernel)⟩
theorem lw_p89 : lw_okq (⟨"HotStackModel", "opening", "(II)I"⟩, 61) := ⟨⟨by decide +kernel, by decide +kernel⟩, List.mem_of_getElem? (i := 991) (by decide +kernel), List.mem_of_getElem? (i := 1598) (by decide +kernel), List.mem_of_getElem? (i := 1599) (by decide +kernel)⟩
theorem lw_p90 : lw_okq (⟨"HotStackModel", "chimneyOpens", "(II)I"⟩, 61) := ⟨⟨by decide +kernel, by decide +kernel⟩, List.mem_of_getElem? (i := 991) (by decide +kernel), List.mem_of_getElem? (i := 1602) (by decide +kernel), List.mem_of_getElem? (i := 1603) (by decide +kernel)⟩
theorem lw_p91 : lw_okq (⟨"HotStackModel", "plainOpens", "(II)I"⟩, 61) := ⟨⟨by decide +kernel, by decide +kernel⟩, List.mem_of_getElem? (i := 991) (by decide +kernel), List.mem_of_getElem? (i := 1606) (by decide +kernel), List.mem_of_getElem? (i := 1607) (by decide +kernel)⟩
theorem lw_p92 : lw_okq (⟨"HotStackModel", "telling", "(II)I"⟩, 61) := ⟨⟨by decide +kernel, by decide +kernel⟩, List.mem_of_getElem? (i := 991) (by decide +kernel), List.mem_of_getElem? (i := 1610) (by decide +kernel), List.mem_of_getElem? (i := 1611) (by decide +kernel)⟩
theorem lw_p93 : lw_okq (⟨"HotStackModel", "plainTells", "(II)I"⟩, 61) := ⟨⟨by decide +kernel, by decide +kernel⟩, List.mem_of_getElem? (i := 991) (by decide +kernel), List.mem_of_getElem? (i := 1614) (by decide +kernel), List.mem_of_getElem? (i := 1615) (by decide +kernel)⟩
theorem lw_p94 : lw_okq (⟨"HotStackModel", "cellMany", "()I"⟩, 61) := ⟨⟨by decide +kernel, by decide +kernel⟩, List.mem_of_getElem? (i := 991) (by decide +kernel), List.mem_of_getElem? (i := 1622) (by decide +kernel), List.mem_of_getElem? (i := 1623) (by decide +kernel)⟩
theorem lw_p95 : lw_okq (⟨"HotStackModel", "glowsNow", "()I"⟩, 61) := ⟨⟨by decide +kernel, by decide +kernel⟩, List.mem_of_getElem? (i := 991) (by decide +kernel), List.mem_of_getElem? (i := 1626) (by decide +kernel), List.mem_of_getElem? (i := 1627) (by decide +kernel)⟩
def lw_privs_6 : List (MethodName × Nat) := [(⟨"HotStackModel", "layBack", "()V"⟩, 61), (⟨"HotStackModel", "isBody", "(I)Z"⟩, 61), (⟨"HotStackModel", "reading", "(II)I"⟩, 61), (⟨"HotStackModel", "ran", "(I)V"⟩, 61), (⟨"HotStackModel", "plainReads", "(II)I"⟩, 61), (⟨"HotStackModel", "saltReads", "(II)I"⟩, 61), (⟨"HotStackModel", "heating", "(II)I"⟩, 61), (⟨"HotStackModel", "smokeHeats", "(II)I"⟩, 61), (⟨"HotStackModel", "plainHeats", "(II)I"⟩, 61), (⟨"HotStackModel", "opening", "(II)I"⟩, 61), (⟨"HotStackModel", "chimneyOpens", "(II)I"⟩, 61), (⟨"HotStackModel", "plainOpens", "(II)I"⟩, 61), (⟨"HotStackModel", "telling", "(II)I"⟩, 61), (⟨"HotStackModel", "plainTells", "(II)I"⟩, 61), (⟨"HotStackModel", "cellMany", "()I"⟩, 61), (⟨"HotStackModel", "glowsNow", "()I"⟩, 61)]
theorem lw_r6 : ∀ q ∈ lw_privs_6, lw_okq q := List.forall_mem_cons.mpr ⟨lw_p80, List.forall_mem_cons.mpr ⟨lw_p81, List.forall_mem_cons.mpr ⟨lw_p82, List.forall_mem_cons.mpr ⟨lw_p83, List.forall_mem_cons.mpr ⟨lw_p84, List.forall_mem_cons.mpr ⟨lw_p85, List.forall_mem_cons.mpr ⟨lw_p86, List.forall_mem_cons.mpr ⟨lw_p87, List.forall_mem_cons.mpr ⟨lw_p88, List.forall_mem_cons.mpr ⟨lw_p89, List.forall_mem_cons.mpr ⟨lw_p90, List.forall_mem_cons.mpr ⟨lw_p91, List.forall_mem_cons.mpr ⟨lw_p92, List.forall_mem_cons.mpr ⟨lw_p93, List.forall_mem_cons.mpr ⟨lw_p94, List.forall_mem_cons.mpr ⟨lw_p95, fun _ h => absurd h List.not_mem_nil⟩⟩⟩⟩⟩⟩⟩⟩⟩⟩⟩⟩⟩⟩⟩⟩
theorem lw_p96 : lw_okq (⟨"HotStackModel", "whyNoPlace", "(II)I"⟩, 61) := ⟨⟨by decide +kernel, by decide +kernel⟩, List.mem_of_getElem? (i := 991) (by decide +kernel), List.mem_of_getElem? (i := 1642) (by decide +kernel), List.mem_of_getElem? (i := 1643) (by decide +kernel)⟩
def lw_privs_7 : List (MethodName × Nat) := [(⟨"HotStackModel", "whyNoPlace", "(II)I"⟩, 61)]
theorem lw_r7 : ∀ q ∈ lw_privs_7, lw_okq q := List.forall_mem_cons.mpr ⟨lw_p96, fun _ h => absurd h List.not_mem_nil⟩
def lw_privs : List (MethodName × Nat) := lw_privs_1 ++ (lw_privs_2 ++ (lw_privs_3 ++ (lw_privs_4 ++ (lw_privs_5 ++ (lw_privs_6 ++ (lw_privs_7))))))
def lw_tbl : List Cond := k2_sels lw_privs ++ tables_1
theorem lw_privs_ok : ∀ q ∈ lw_privs, lw_okq q := by
  show ∀ q ∈ lw_privs_1 ++ (lw_privs_2 ++ (lw_privs_3 ++ (lw_privs_4 ++ (lw_privs_5 ++ (lw_privs_6 ++ (lw_privs_7)))))), lw_okq q
  exact List.forall_mem_append.mpr ⟨lw_r1, List.forall_mem_append.mpr ⟨lw_r2, List.forall_mem_append.mpr ⟨lw_r3, List.forall_mem_append.mpr ⟨lw_r4, List.forall_mem_append.mpr ⟨lw_r5, List.forall_mem_append.mpr ⟨lw_r6, lw_r7⟩⟩⟩⟩⟩⟩
-- ===== end of PART A; then your names; then what follows =====
/-! ===== BEGIN words of one list among another's, by their places ===== -/
/-! ===== END ===== -/
/-! ===== BEGIN printed: names, fields, word lists, decode rows ===== -/
def RX0 : String := "HotStack$Bodies"
def TX0 : u_T := fun k => match k with
  | 0 => ("HotStack$Bodies", "kinds", "[I", true)
  | 1 => ("HotStack$Bodies", "many", "I", false)
  | 2 => ("HotStack$Bodies", "begun", "[I", true)
  | 3 => ("HotStack$Bodies", "ran", "I", false)
  | _ => ("HotStack$Bodies", "actor", "I", false)
def tyX0 : Nat → FieldType := fun k => match k with
  | 0 => .array .int
  | 1 => .int
  | 2 => .array .int
  | 3 => .int
  | _ => .int
abbrev wsX00 : List Cond := u_ws RX0 TX0 5
theorem nmX0 : ∀ a, a < 5 → ∀ b, b < 5 → a ≠ b → (TX0 a).2.1 ≠ (TX0 b).2.1 := by decide +kernel
theorem tyX0_ok : ∀ k, k < 5 → parseFieldDescriptor (TX0 k).2.2.1 = some (tyX0 k) := by decide +kernel
abbrev cX0_init : ByteArray := prog_2_method_1_code
def yX0_init : MethodName := ⟨RX0, "<init>", "()V"⟩
abbrev cX0_add : ByteArray := prog_2_method_2_code
def yX0_add : MethodName := ⟨RX0, "add", "(I)I"⟩
abbrev cX0_kindOf : ByteArray := prog_2_method_3_code
def yX0_kindOf : MethodName := ⟨RX0, "kindOf", "(I)I"⟩
abbrev cX0_isUnder : ByteArray := prog_2_method_4_code
def yX0_isUnder : MethodName := ⟨RX0, "isUnder", "(II)Z"⟩
abbrev cX0_perform : ByteArray := prog_2_method_5_code
def yX0_perform : MethodName := ⟨RX0, "perform", "(III)I"⟩
abbrev cX0_begin : ByteArray := prog_2_method_6_code
def yX0_begin : MethodName := ⟨RX0, "begin", "(IIII)I"⟩
abbrev cX0_run : ByteArray := prog_2_method_7_code
def yX0_run : MethodName := ⟨RX0, "run", "(IIII)I"⟩
def RX1 : String := "HotStack$Books"
def TX1 : u_T := fun k => match k with
  | 0 => ("HotStack$Books", "hay", "LHotStack$Hay;", true)
  | _ => ("HotStack$Books", "mind", "LHotStack$Hay;", true)
def tyX1 : Nat → FieldType := fun k => match k with
  | 0 => .object "HotStack$Hay"
  | _ => .object "HotStack$Hay"
abbrev wsX10 : List Cond := u_ws RX1 TX1 2
theorem nmX1 : ∀ a, a < 2 → ∀ b, b < 2 → a ≠ b → (TX1 a).2.1 ≠ (TX1 b).2.1 := by decide +kernel
theorem tyX1_ok : ∀ k, k < 2 → parseFieldDescriptor (TX1 k).2.2.1 = some (tyX1 k) := by decide +kernel
abbrev cX1_init : ByteArray := prog_3_method_1_code
def yX1_init : MethodName := ⟨RX1, "<init>", "(LHotStack$Hay;LHotStack$Hay;)V"⟩
abbrev cX1_judged : ByteArray := prog_3_method_2_code
def yX1_judged : MethodName := ⟨RX1, "judged", "(LHotStack$Shelf;I)I"⟩
abbrev cX1_fitting : ByteArray := prog_3_method_3_code
def yX1_fitting : MethodName := ⟨RX1, "fitting", "(LHotStack$Shelf;II)I"⟩
abbrev cX1_firstWrong : ByteArray := prog_3_method_4_code
def yX1_firstWrong : MethodName := ⟨RX1, "firstWrong", "(LHotStack$Shelf;I)I"⟩
def RX2 : String := "HotStack$Changes"
def TX2 : u_T := fun k => match k with
  | 0 => ("HotStack$Changes", "numbers", "[I", true)
  | 1 => ("HotStack$Changes", "whats", "[I", true)
  | 2 => ("HotStack$Changes", "olds", "[I", true)
  | 3 => ("HotStack$Changes", "news", "[I", true)
  | 4 => ("HotStack$Changes", "done", "I", false)
  | _ => ("HotStack$Changes", "kept", "I", false)
def tyX2 : Nat → FieldType := fun k => match k with
  | 0 => .array .int
  | 1 => .array .int
  | 2 => .array .int
  | 3 => .array .int
  | 4 => .int
  | _ => .int
abbrev wsX20 : List Cond := u_ws RX2 TX2 6
theorem nmX2 : ∀ a, a < 6 → ∀ b, b < 6 → a ≠ b → (TX2 a).2.1 ≠ (TX2 b).2.1 := by decide +kernel
theorem tyX2_ok : ∀ k, k < 6 → parseFieldDescriptor (TX2 k).2.2.1 = some (tyX2 k) := by decide +kernel
abbrev cX2_init : ByteArray := prog_4_method_1_code
def yX2_init : MethodName := ⟨RX2, "<init>", "()V"⟩
abbrev cX2_add : ByteArray := prog_4_method_2_code
def yX2_add : MethodName := ⟨RX2, "add", "(IIII)V"⟩
abbrev cX2_forgetFirst : ByteArray := prog_4_method_3_code
def yX2_forgetFirst : MethodName := ⟨RX2, "forgetFirst", "()V"⟩
abbrev cX2_undoIn : ByteArray := prog_4_method_4_code
def yX2_undoIn : MethodName := ⟨RX2, "undoIn", "(LHotStack$Hay;)I"⟩
abbrev cX2_redoIn : ByteArray := prog_4_method_5_code
def yX2_redoIn : MethodName := ⟨RX2, "redoIn", "(LHotStack$Hay;)I"⟩
def RX3 : String := "HotStack$Game"
def TX3 : u_T := fun k => match k with
  | 0 => ("HotStack$Game", "hay", "LHotStack$Hay;", true)
  | 1 => ("HotStack$Game", "views", "[LHotStack$Hay;", true)
  | 2 => ("HotStack$Game", "deeds", "I", false)
  | 3 => ("HotStack$Game", "days", "I", false)
  | 4 => ("HotStack$Game", "best", "I", false)
  | _ => ("HotStack$Game", "opening", "I", false)
def tyX3 : Nat → FieldType := fun k => match k with
  | 0 => .object "HotStack$Hay"
  | 1 => .array (.object "HotStack$Hay")
  | 2 => .int
  | 3 => .int
  | 4 => .int
  | _ => .int
abbrev wsX30 : List Cond := u_ws RX3 TX3 6
theorem nmX3 : ∀ a, a < 6 → ∀ b, b < 6 → a ≠ b → (TX3 a).2.1 ≠ (TX3 b).2.1 := by decide +kernel
theorem tyX3_ok : ∀ k, k < 6 → parseFieldDescriptor (TX3 k).2.2.1 = some (tyX3 k) := by decide +kernel
abbrev cX3_init : ByteArray := prog_5_method_1_code
def yX3_init : MethodName := ⟨RX3, "<init>", "(LHotStack$Hay;LHotStack$Law;)V"⟩
abbrev cX3_play : ByteArray := prog_5_method_2_code
def yX3_play : MethodName := ⟨RX3, "play", "(II)V"⟩
abbrev cX3_outcome : ByteArray := prog_5_method_3_code
def yX3_outcome : MethodName := ⟨RX3, "outcome", "(III)I"⟩
def RX4 : String := "HotStack$Hay"
def TX4 : u_T := fun k => match k with
  | 0 => ("HotStack$Hay", "law", "LHotStack$Law;", true)
  | 1 => ("HotStack$Hay", "high", "[I", true)
  | 2 => ("HotStack$Hay", "chimney", "[I", true)
  | 3 => ("HotStack$Hay", "damp", "[I", true)
  | 4 => ("HotStack$Hay", "heat", "[I", true)
  | 5 => ("HotStack$Hay", "good", "[I", true)
  | 6 => ("HotStack$Hay", "salt", "[I", true)
  | 7 => ("HotStack$Hay", "load", "[I", true)
  | 8 => ("HotStack$Hay", "led", "[I", true)
  | 9 => ("HotStack$Hay", "gain", "[I", true)
  | 10 => ("HotStack$Hay", "glows", "I", false)
  | _ => ("HotStack$Hay", "today", "I", false)
def tyX4 : Nat → FieldType := fun k => match k with
  | 0 => .object "HotStack$Law"
  | 1 => .array .int
  | 2 => .array .int
  | 3 => .array .int
  | 4 => .array .int
  | 5 => .array .int
  | 6 => .array .int
  | 7 => .array .int
  | 8 => .array .int
  | 9 => .array .int
  | 10 => .int
  | _ => .int
abbrev wsX40 : List Cond := u_ws RX4 TX4 12
theorem nmX4 : ∀ a, a < 12 → ∀ b, b < 12 → a ≠ b → (TX4 a).2.1 ≠ (TX4 b).2.1 := by decide +kernel
theorem tyX4_ok : ∀ k, k < 12 → parseFieldDescriptor (TX4 k).2.2.1 = some (tyX4 k) := by decide +kernel
abbrev cX4_init : ByteArray := prog_6_method_1_code
def yX4_init : MethodName := ⟨RX4, "<init>", "(LHotStack$Law;)V"⟩
abbrev cX4_takeStack : ByteArray := prog_6_method_2_code
def yX4_takeStack : MethodName := ⟨RX4, "takeStack", "(LHotStack$Hay;)V"⟩
abbrev cX4_takeAll : ByteArray := prog_6_method_3_code
def yX4_takeAll : MethodName := ⟨RX4, "takeAll", "(LHotStack$Hay;)V"⟩
abbrev cX4_has : ByteArray := prog_6_method_4_code
def yX4_has : MethodName := ⟨RX4, "has", "(I)Z"⟩
abbrev cX4_cells : ByteArray := prog_6_method_5_code
def yX4_cells : MethodName := ⟨RX4, "cells", "()I"⟩
abbrev cX4_numberOf : ByteArray := prog_6_method_6_code
def yX4_numberOf : MethodName := ⟨RX4, "numberOf", "(II)I"⟩
abbrev cX4_tell : ByteArray := prog_6_method_7_code
def yX4_tell : MethodName := ⟨RX4, "tell", "(III)V"⟩
abbrev cX4_pileOn : ByteArray := prog_6_method_8_code
def yX4_pileOn : MethodName := ⟨RX4, "pileOn", "(III)I"⟩
abbrev cX4_turnColumn : ByteArray := prog_6_method_9_code
def yX4_turnColumn : MethodName := ⟨RX4, "turnColumn", "(I)V"⟩
abbrev cX4_saltColumn : ByteArray := prog_6_method_10_code
def yX4_saltColumn : MethodName := ⟨RX4, "saltColumn", "(I)V"⟩
abbrev cX4_wetColumn : ByteArray := prog_6_method_11_code
def yX4_wetColumn : MethodName := ⟨RX4, "wetColumn", "(I)V"⟩
abbrev cX4_isBeyond : ByteArray := prog_6_method_12_code
def yX4_isBeyond : MethodName := ⟨RX4, "isBeyond", "(II)Z"⟩
abbrev cX4_airOf : ByteArray := prog_6_method_13_code
def yX4_airOf : MethodName := ⟨RX4, "airOf", "(I)I"⟩
abbrev cX4_meanBeside : ByteArray := prog_6_method_14_code
def yX4_meanBeside : MethodName := ⟨RX4, "meanBeside", "(I)I"⟩
abbrev cX4_around : ByteArray := prog_6_method_15_code
def yX4_around : MethodName := ⟨RX4, "around", "(I)I"⟩
abbrev cX4_passDay : ByteArray := prog_6_method_16_code
def yX4_passDay : MethodName := ⟨RX4, "passDay", "()V"⟩
abbrev cX4_warm : ByteArray := prog_6_method_17_code
def yX4_warm : MethodName := ⟨RX4, "warm", "(II)V"⟩
abbrev cX4_hottestCell : ByteArray := prog_6_method_18_code
def yX4_hottestCell : MethodName := ⟨RX4, "hottestCell", "()I"⟩
abbrev cX4_hottestHeat : ByteArray := prog_6_method_19_code
def yX4_hottestHeat : MethodName := ⟨RX4, "hottestHeat", "()I"⟩
abbrev cX4_hottestBehind : ByteArray := prog_6_method_20_code
def yX4_hottestBehind : MethodName := ⟨RX4, "hottestBehind", "(I)I"⟩
abbrev cX4_glowing : ByteArray := prog_6_method_21_code
def yX4_glowing : MethodName := ⟨RX4, "glowing", "()I"⟩
abbrev cX4_goodOfAll : ByteArray := prog_6_method_22_code
def yX4_goodOfAll : MethodName := ⟨RX4, "goodOfAll", "()I"⟩
abbrev cX4_value : ByteArray := prog_6_method_23_code
def yX4_value : MethodName := ⟨RX4, "value", "()I"⟩
abbrev cX4_goneOf : ByteArray := prog_6_method_24_code
def yX4_goneOf : MethodName := ⟨RX4, "goneOf", "(I)I"⟩
def RX5 : String := "HotStack$Law"
def TX5 : u_T := fun k => match k with
  | 0 => ("HotStack$Law", "lines", "I", false)
  | 1 => ("HotStack$Law", "steps", "[I", true)
  | 2 => ("HotStack$Law", "arguments", "[I", true)
  | 3 => ("HotStack$Law", "guardEnds", "[I", true)
  | 4 => ("HotStack$Law", "lineEnds", "[I", true)
  | 5 => ("HotStack$Law", "named", "[I", true)
  | 6 => ("HotStack$Law", "pile", "[I", true)
  | _ => ("HotStack$Law", "known", "[I", true)
def tyX5 : Nat → FieldType := fun k => match k with
  | 0 => .int
  | 1 => .array .int
  | 2 => .array .int
  | 3 => .array .int
  | 4 => .array .int
  | 5 => .array .int
  | 6 => .array .int
  | _ => .array .int
abbrev wsX50 : List Cond := u_ws RX5 TX5 8
theorem nmX5 : ∀ a, a < 8 → ∀ b, b < 8 → a ≠ b → (TX5 a).2.1 ≠ (TX5 b).2.1 := by decide +kernel
theorem tyX5_ok : ∀ k, k < 8 → parseFieldDescriptor (TX5 k).2.2.1 = some (tyX5 k) := by decide +kernel
abbrev cX5_init : ByteArray := prog_7_method_1_code
def yX5_init : MethodName := ⟨RX5, "<init>", "()V"⟩
abbrev cX5_become : ByteArray := prog_7_method_2_code
def yX5_become : MethodName := ⟨RX5, "become", "(LHotStack$Tape;)V"⟩
abbrev cX5_gives : ByteArray := prog_7_method_3_code
def yX5_gives : MethodName := ⟨RX5, "gives", "(LHotStack$Hay;I)I"⟩
abbrev cX5_held : ByteArray := prog_7_method_4_code
def yX5_held : MethodName := ⟨RX5, "held", "(I)I"⟩
abbrev cX5_worked : ByteArray := prog_7_method_5_code
def yX5_worked : MethodName := ⟨RX5, "worked", "()I"⟩
abbrev cX5_run : ByteArray := prog_7_method_6_code
def yX5_run : MethodName := ⟨RX5, "run", "(II)I"⟩
def RX6 : String := "HotStack$Laying"
def TX6 : u_T := fun k => match k with
  | 0 => ("HotStack$Laying", "hay", "LHotStack$Hay;", true)
  | 1 => ("HotStack$Laying", "mind", "LHotStack$Hay;", true)
  | 2 => ("HotStack$Laying", "damps", "[I", true)
  | 3 => ("HotStack$Laying", "order", "[I", true)
  | 4 => ("HotStack$Laying", "bestOrder", "[I", true)
  | 5 => ("HotStack$Laying", "many", "I", false)
  | _ => ("HotStack$Laying", "best", "I", false)
def tyX6 : Nat → FieldType := fun k => match k with
  | 0 => .object "HotStack$Hay"
  | 1 => .object "HotStack$Hay"
  | 2 => .array .int
  | 3 => .array .int
  | 4 => .array .int
  | 5 => .int
  | _ => .int
abbrev wsX60 : List Cond := u_ws RX6 TX6 7
theorem nmX6 : ∀ a, a < 7 → ∀ b, b < 7 → a ≠ b → (TX6 a).2.1 ≠ (TX6 b).2.1 := by decide +kernel
theorem tyX6_ok : ∀ k, k < 7 → parseFieldDescriptor (TX6 k).2.2.1 = some (tyX6 k) := by decide +kernel
abbrev cX6_init : ByteArray := prog_8_method_1_code
def yX6_init : MethodName := ⟨RX6, "<init>", "(LHotStack$Hay;LHotStack$Hay;)V"⟩
abbrev cX6_placeOf : ByteArray := prog_8_method_2_code
def yX6_placeOf : MethodName := ⟨RX6, "placeOf", "(I)I"⟩
abbrev cX6_seek : ByteArray := prog_8_method_3_code
def yX6_seek : MethodName := ⟨RX6, "seek", "(LHotStack$Shelf;I)V"⟩
abbrev cX6_takeLoads : ByteArray := prog_8_method_4_code
def yX6_takeLoads : MethodName := ⟨RX6, "takeLoads", "(LHotStack$Shelf;)V"⟩
abbrev cX6_isRepeated : ByteArray := prog_8_method_5_code
def yX6_isRepeated : MethodName := ⟨RX6, "isRepeated", "()Z"⟩
abbrev cX6_weigh : ByteArray := prog_8_method_6_code
def yX6_weigh : MethodName := ⟨RX6, "weigh", "(I)V"⟩
abbrev cX6_goToNextOrder : ByteArray := prog_8_method_7_code
def yX6_goToNextOrder : MethodName := ⟨RX6, "goToNextOrder", "()Z"⟩
abbrev cX6_swap : ByteArray := prog_8_method_8_code
def yX6_swap : MethodName := ⟨RX6, "swap", "(II)V"⟩
def RX7 : String := "HotStack$Rods"
def TX7 : u_T := fun k => match k with
  | 0 => ("HotStack$Rods", "hay", "LHotStack$Hay;", true)
  | 1 => ("HotStack$Rods", "seenFrom", "[I", true)
  | _ => ("HotStack$Rods", "places", "I", false)
def tyX7 : Nat → FieldType := fun k => match k with
  | 0 => .object "HotStack$Hay"
  | 1 => .array .int
  | _ => .int
abbrev wsX70 : List Cond := u_ws RX7 TX7 3
theorem nmX7 : ∀ a, a < 3 → ∀ b, b < 3 → a ≠ b → (TX7 a).2.1 ≠ (TX7 b).2.1 := by decide +kernel
theorem tyX7_ok : ∀ k, k < 3 → parseFieldDescriptor (TX7 k).2.2.1 = some (tyX7 k) := by decide +kernel
abbrev cX7_init : ByteArray := prog_9_method_1_code
def yX7_init : MethodName := ⟨RX7, "<init>", "(LHotStack$Hay;)V"⟩
abbrev cX7_fewest : ByteArray := prog_9_method_2_code
def yX7_fewest : MethodName := ⟨RX7, "fewest", "(I)I"⟩
abbrev cX7_place : ByteArray := prog_9_method_3_code
def yX7_place : MethodName := ⟨RX7, "place", "(III)V"⟩
def RX8 : String := "HotStack$Shelf"
def TX8 : u_T := fun k => match k with
  | 0 => ("HotStack$Shelf", "holds", "I", false)
  | 1 => ("HotStack$Shelf", "body", "I", false)
  | 2 => ("HotStack$Shelf", "sort", "I", false)
  | 3 => ("HotStack$Shelf", "many", "I", false)
  | _ => ("HotStack$Shelf", "elements", "[J", true)
def tyX8 : Nat → FieldType := fun k => match k with
  | 0 => .int
  | 1 => .int
  | 2 => .int
  | 3 => .int
  | _ => .array .long
abbrev wsX80 : List Cond := u_ws RX8 TX8 5
theorem nmX8 : ∀ a, a < 5 → ∀ b, b < 5 → a ≠ b → (TX8 a).2.1 ≠ (TX8 b).2.1 := by decide +kernel
theorem tyX8_ok : ∀ k, k < 5 → parseFieldDescriptor (TX8 k).2.2.1 = some (tyX8 k) := by decide +kernel
abbrev cX8_init : ByteArray := prog_10_method_1_code
def yX8_init : MethodName := ⟨RX8, "<init>", "()V"⟩
abbrev cX8_holdNothing : ByteArray := prog_10_method_2_code
def yX8_holdNothing : MethodName := ⟨RX8, "holdNothing", "()V"⟩
abbrev cX8_holdBody : ByteArray := prog_10_method_3_code
def yX8_holdBody : MethodName := ⟨RX8, "holdBody", "(I)V"⟩
abbrev cX8_holdRow : ByteArray := prog_10_method_4_code
def yX8_holdRow : MethodName := ⟨RX8, "holdRow", "(II)V"⟩
abbrev cX8_isEmpty : ByteArray := prog_10_method_5_code
def yX8_isEmpty : MethodName := ⟨RX8, "isEmpty", "()Z"⟩
abbrev cX8_hasRow : ByteArray := prog_10_method_6_code
def yX8_hasRow : MethodName := ⟨RX8, "hasRow", "()Z"⟩
abbrev cX8_heldBody : ByteArray := prog_10_method_7_code
def yX8_heldBody : MethodName := ⟨RX8, "heldBody", "()I"⟩
abbrev cX8_hasPlaces : ByteArray := prog_10_method_8_code
def yX8_hasPlaces : MethodName := ⟨RX8, "hasPlaces", "(II)Z"⟩
abbrev cX8_refusalOfBytes : ByteArray := prog_10_method_9_code
def yX8_refusalOfBytes : MethodName := ⟨RX8, "refusalOfBytes", "()I"⟩
abbrev cX8_refusalOfPlace : ByteArray := prog_10_method_10_code
def yX8_refusalOfPlace : MethodName := ⟨RX8, "refusalOfPlace", "(I)I"⟩
abbrev cX8_store : ByteArray := prog_10_method_11_code
def yX8_store : MethodName := ⟨RX8, "store", "(IJ)V"⟩
def RX9 : String := "HotStack$Tape"
def TX9 : u_T := fun k => match k with
  | 0 => ("HotStack$Tape", "letters", "[I", true)
  | 1 => ("HotStack$Tape", "length", "I", false)
  | 2 => ("HotStack$Tape", "steps", "[I", true)
  | 3 => ("HotStack$Tape", "arguments", "[I", true)
  | 4 => ("HotStack$Tape", "used", "I", false)
  | 5 => ("HotStack$Tape", "guardEnds", "[I", true)
  | 6 => ("HotStack$Tape", "lineEnds", "[I", true)
  | 7 => ("HotStack$Tape", "lines", "I", false)
  | 8 => ("HotStack$Tape", "at", "I", false)
  | _ => ("HotStack$Tape", "fault", "I", false)
def tyX9 : Nat → FieldType := fun k => match k with
  | 0 => .array .int
  | 1 => .int
  | 2 => .array .int
  | 3 => .array .int
  | 4 => .int
  | 5 => .array .int
  | 6 => .array .int
  | 7 => .int
  | 8 => .int
  | _ => .int
abbrev wsX90 : List Cond := u_ws RX9 TX9 10
theorem nmX9 : ∀ a, a < 10 → ∀ b, b < 10 → a ≠ b → (TX9 a).2.1 ≠ (TX9 b).2.1 := by decide +kernel
theorem tyX9_ok : ∀ k, k < 10 → parseFieldDescriptor (TX9 k).2.2.1 = some (tyX9 k) := by decide +kernel
abbrev cX9_init : ByteArray := prog_11_method_1_code
def yX9_init : MethodName := ⟨RX9, "<init>", "()V"⟩
abbrev cX9_add : ByteArray := prog_11_method_2_code
def yX9_add : MethodName := ⟨RX9, "add", "(I)I"⟩
abbrev cX9_clear : ByteArray := prog_11_method_3_code
def yX9_clear : MethodName := ⟨RX9, "clear", "()V"⟩
abbrev cX9_understand : ByteArray := prog_11_method_4_code
def yX9_understand : MethodName := ⟨RX9, "understand", "()I"⟩
abbrev cX9_next : ByteArray := prog_11_method_5_code
def yX9_next : MethodName := ⟨RX9, "next", "()I"⟩
abbrev cX9_failHere : ByteArray := prog_11_method_6_code
def yX9_failHere : MethodName := ⟨RX9, "failHere", "()V"⟩
abbrev cX9_emit : ByteArray := prog_11_method_7_code
def yX9_emit : MethodName := ⟨RX9, "emit", "(II)V"⟩
abbrev cX9_readLine : ByteArray := prog_11_method_8_code
def yX9_readLine : MethodName := ⟨RX9, "readLine", "()V"⟩
abbrev cX9_readLevel : ByteArray := prog_11_method_9_code
def yX9_readLevel : MethodName := ⟨RX9, "readLevel", "(II)V"⟩
abbrev cX9_levelOf : ByteArray := prog_11_method_10_code
def yX9_levelOf : MethodName := ⟨RX9, "levelOf", "(I)I"⟩
abbrev cX9_readUnit : ByteArray := prog_11_method_11_code
def yX9_readUnit : MethodName := ⟨RX9, "readUnit", "(I)V"⟩
abbrev cX9_readOpened : ByteArray := prog_11_method_12_code
def yX9_readOpened : MethodName := ⟨RX9, "readOpened", "(II)V"⟩
abbrev cX9_readNumber : ByteArray := prog_11_method_13_code
def yX9_readNumber : MethodName := ⟨RX9, "readNumber", "()V"⟩
abbrev cX9_nameOf : ByteArray := prog_11_method_14_code
def yX9_nameOf : MethodName := ⟨RX9, "nameOf", "(I)I"⟩
def RX10 : String := "HotStack$Thought"
def TX10 : u_T := fun k => match k with
  | 0 => ("HotStack$Thought", "hay", "LHotStack$Hay;", true)
  | 1 => ("HotStack$Thought", "mind", "LHotStack$Hay;", true)
  | 2 => ("HotStack$Thought", "best", "I", false)
  | _ => ("HotStack$Thought", "which", "I", false)
def tyX10 : Nat → FieldType := fun k => match k with
  | 0 => .object "HotStack$Hay"
  | 1 => .object "HotStack$Hay"
  | 2 => .int
  | _ => .int
abbrev wsX100 : List Cond := u_ws RX10 TX10 4
theorem nmX10 : ∀ a, a < 4 → ∀ b, b < 4 → a ≠ b → (TX10 a).2.1 ≠ (TX10 b).2.1 := by decide +kernel
theorem tyX10_ok : ∀ k, k < 4 → parseFieldDescriptor (TX10 k).2.2.1 = some (tyX10 k) := by decide +kernel
abbrev cX10_init : ByteArray := prog_12_method_1_code
def yX10_init : MethodName := ⟨RX10, "<init>", "(LHotStack$Hay;LHotStack$Hay;)V"⟩
abbrev cX10_behind : ByteArray := prog_12_method_2_code
def yX10_behind : MethodName := ⟨RX10, "behind", "(I)LHotStack$Hay;"⟩
abbrev cX10_firstDay : ByteArray := prog_12_method_3_code
def yX10_firstDay : MethodName := ⟨RX10, "firstDay", "(II)I"⟩
abbrev cX10_forget : ByteArray := prog_12_method_4_code
def yX10_forget : MethodName := ⟨RX10, "forget", "()V"⟩
abbrev cX10_takeCooler : ByteArray := prog_12_method_5_code
def yX10_takeCooler : MethodName := ⟨RX10, "takeCooler", "(II)V"⟩
abbrev cX10_seekTurn : ByteArray := prog_12_method_6_code
def yX10_seekTurn : MethodName := ⟨RX10, "seekTurn", "(II)V"⟩
abbrev cX10_seekChimney : ByteArray := prog_12_method_7_code
def yX10_seekChimney : MethodName := ⟨RX10, "seekChimney", "(I)V"⟩
abbrev cX10_latestTurn : ByteArray := prog_12_method_8_code
def yX10_latestTurn : MethodName := ⟨RX10, "latestTurn", "()I"⟩
abbrev cX10_staysDarkIfTurned : ByteArray := prog_12_method_9_code
def yX10_staysDarkIfTurned : MethodName := ⟨RX10, "staysDarkIfTurned", "(I)Z"⟩
abbrev cX10_seekSale : ByteArray := prog_12_method_10_code
def yX10_seekSale : MethodName := ⟨RX10, "seekSale", "(II)V"⟩
abbrev cX10_seekDrawn : ByteArray := prog_12_method_11_code
def yX10_seekDrawn : MethodName := ⟨RX10, "seekDrawn", "(IIII)V"⟩
def RX11 : String := "HotStack"
def TX11 : u_T := fun k => match k with
  | 0 => ("HotStack", "tape", "LHotStack$Tape;", true)
  | 1 => ("HotStack", "law", "LHotStack$Law;", true)
  | 2 => ("HotStack", "hay", "LHotStack$Hay;", true)
  | 3 => ("HotStack", "image", "LHotStack$Hay;", true)
  | 4 => ("HotStack", "hasImage", "Z", false)
  | 5 => ("HotStack", "thought", "LHotStack$Thought;", true)
  | 6 => ("HotStack", "rods", "LHotStack$Rods;", true)
  | 7 => ("HotStack", "laying", "LHotStack$Laying;", true)
  | 8 => ("HotStack", "game", "LHotStack$Game;", true)
  | 9 => ("HotStack", "books", "LHotStack$Books;", true)
  | 10 => ("HotStack", "changes", "LHotStack$Changes;", true)
  | 11 => ("HotStack", "bodies", "LHotStack$Bodies;", true)
  | _ => ("HotStack", "shelves", "[LHotStack$Shelf;", true)
def tyX11 : Nat → FieldType := fun k => match k with
  | 0 => .object "HotStack$Tape"
  | 1 => .object "HotStack$Law"
  | 2 => .object "HotStack$Hay"
  | 3 => .object "HotStack$Hay"
  | 4 => .boolean
  | 5 => .object "HotStack$Thought"
  | 6 => .object "HotStack$Rods"
  | 7 => .object "HotStack$Laying"
  | 8 => .object "HotStack$Game"
  | 9 => .object "HotStack$Books"
  | 10 => .object "HotStack$Changes"
  | 11 => .object "HotStack$Bodies"
  | _ => .array (.object "HotStack$Shelf")
abbrev wsX110 : List Cond := u_ws RX11 TX11 13
theorem nmX11 : ∀ a, a < 13 → ∀ b, b < 13 → a ≠ b → (TX11 a).2.1 ≠ (TX11 b).2.1 := by decide +kernel
theorem tyX11_ok : ∀ k, k < 13 → parseFieldDescriptor (TX11 k).2.2.1 = some (tyX11 k) := by decide +kernel
abbrev cX11_init : ByteArray := prog_1_method_1_code
def yX11_init : MethodName := ⟨RX11, "<init>", "()V"⟩
abbrev cX11_cart : ByteArray := prog_1_method_2_code
def yX11_cart : MethodName := ⟨RX11, "cart", "(II)I"⟩
abbrev cX11_loads : ByteArray := prog_1_method_3_code
def yX11_loads : MethodName := ⟨RX11, "loads", "(III)I"⟩
abbrev cX11_mend : ByteArray := prog_1_method_4_code
def yX11_mend : MethodName := ⟨RX11, "mend", "(III)I"⟩
abbrev cX11_of : ByteArray := prog_1_method_5_code
def yX11_of : MethodName := ⟨RX11, "of", "(II)I"⟩
abbrev cX11_feed : ByteArray := prog_1_method_6_code
def yX11_feed : MethodName := ⟨RX11, "feed", "(I)I"⟩
abbrev cX11_law : ByteArray := prog_1_method_7_code
def yX11_law : MethodName := ⟨RX11, "law", "()I"⟩
abbrev cX11_heats : ByteArray := prog_1_method_8_code
def yX11_heats : MethodName := ⟨RX11, "heats", "(I)I"⟩
abbrev cX11_later : ByteArray := prog_1_method_9_code
def yX11_later : MethodName := ⟨RX11, "later", "(III)I"⟩
abbrev cX11_stack : ByteArray := prog_1_method_10_code
def yX11_stack : MethodName := ⟨RX11, "stack", "(II)I"⟩
abbrev cX11_first : ByteArray := prog_1_method_11_code
def yX11_first : MethodName := ⟨RX11, "first", "(II)I"⟩
abbrev cX11_rods : ByteArray := prog_1_method_12_code
def yX11_rods : MethodName := ⟨RX11, "rods", "(I)I"⟩
abbrev cX11_rodsAt : ByteArray := prog_1_method_13_code
def yX11_rodsAt : MethodName := ⟨RX11, "rodsAt", "(I)J"⟩
abbrev cX11_turn : ByteArray := prog_1_method_14_code
def yX11_turn : MethodName := ⟨RX11, "turn", "(III)I"⟩
abbrev cX11_chimney : ByteArray := prog_1_method_15_code
def yX11_chimney : MethodName := ⟨RX11, "chimney", "(II)I"⟩
abbrev cX11_latest : ByteArray := prog_1_method_16_code
def yX11_latest : MethodName := ⟨RX11, "latest", "()I"⟩
abbrev cX11_lay : ByteArray := prog_1_method_17_code
def yX11_lay : MethodName := ⟨RX11, "lay", "(III)I"⟩
abbrev cX11_worth : ByteArray := prog_1_method_18_code
def yX11_worth : MethodName := ⟨RX11, "worth", "()I"⟩
abbrev cX11_sell : ByteArray := prog_1_method_19_code
def yX11_sell : MethodName := ⟨RX11, "sell", "(III)I"⟩
abbrev cX11_whose : ByteArray := prog_1_method_20_code
def yX11_whose : MethodName := ⟨RX11, "whose", "()I"⟩
abbrev cX11_judge : ByteArray := prog_1_method_21_code
def yX11_judge : MethodName := ⟨RX11, "judge", "(II)I"⟩
abbrev cX11_book : ByteArray := prog_1_method_22_code
def yX11_book : MethodName := ⟨RX11, "book", "(III)I"⟩
abbrev cX11_byTurns : ByteArray := prog_1_method_23_code
def yX11_byTurns : MethodName := ⟨RX11, "byTurns", "(II)I"⟩
abbrev cX11_drawn : ByteArray := prog_1_method_24_code
def yX11_drawn : MethodName := ⟨RX11, "drawn", "(III)I"⟩
abbrev cX11_turned : ByteArray := prog_1_method_25_code
def yX11_turned : MethodName := ⟨RX11, "turned", "(I)I"⟩
abbrev cX11_salt : ByteArray := prog_1_method_26_code
def yX11_salt : MethodName := ⟨RX11, "salt", "(I)I"⟩
abbrev cX11_read : ByteArray := prog_1_method_27_code
def yX11_read : MethodName := ⟨RX11, "read", "(I)I"⟩
abbrev cX11_day : ByteArray := prog_1_method_28_code
def yX11_day : MethodName := ⟨RX11, "day", "()I"⟩
abbrev cX11_led : ByteArray := prog_1_method_29_code
def yX11_led : MethodName := ⟨RX11, "led", "(I)I"⟩
abbrev cX11_image : ByteArray := prog_1_method_30_code
def yX11_image : MethodName := ⟨RX11, "image", "()I"⟩
abbrev cX11_back : ByteArray := prog_1_method_31_code
def yX11_back : MethodName := ⟨RX11, "back", "()I"⟩
abbrev cX11_undo : ByteArray := prog_1_method_32_code
def yX11_undo : MethodName := ⟨RX11, "undo", "()I"⟩
abbrev cX11_redo : ByteArray := prog_1_method_33_code
def yX11_redo : MethodName := ⟨RX11, "redo", "()I"⟩
abbrev cX11_body : ByteArray := prog_1_method_34_code
def yX11_body : MethodName := ⟨RX11, "body", "(I)I"⟩
abbrev cX11_act : ByteArray := prog_1_method_35_code
def yX11_act : MethodName := ⟨RX11, "act", "(III)I"⟩
abbrev cX11_trace : ByteArray := prog_1_method_36_code
def yX11_trace : MethodName := ⟨RX11, "trace", "(I)I"⟩
abbrev cX11_keep : ByteArray := prog_1_method_37_code
def yX11_keep : MethodName := ⟨RX11, "keep", "(II)I"⟩
abbrev cX11_row : ByteArray := prog_1_method_38_code
def yX11_row : MethodName := ⟨RX11, "row", "(III)I"⟩
abbrev cX11_put : ByteArray := prog_1_method_39_code
def yX11_put : MethodName := ⟨RX11, "put", "(IIJ)I"⟩
abbrev cX11_element : ByteArray := prog_1_method_40_code
def yX11_element : MethodName := ⟨RX11, "element", "(II)J"⟩
abbrev cX11_shift : ByteArray := prog_1_method_41_code
def yX11_shift : MethodName := ⟨RX11, "shift", "(IIIII)I"⟩
abbrev cX11_taken : ByteArray := prog_1_method_42_code
def yX11_taken : MethodName := ⟨RX11, "taken", "(II)I"⟩
abbrev cX11_count : ByteArray := prog_1_method_43_code
def yX11_count : MethodName := ⟨RX11, "count", "(I)I"⟩
abbrev cX11_within : ByteArray := prog_1_method_44_code
def yX11_within : MethodName := ⟨RX11, "within", "(III)Z"⟩
abbrev cX11_isShelf : ByteArray := prog_1_method_45_code
def yX11_isShelf : MethodName := ⟨RX11, "isShelf", "(I)Z"⟩
abbrev cX11_lowestBit : ByteArray := prog_1_method_46_code
def yX11_lowestBit : MethodName := ⟨RX11, "lowestBit", "(I)I"⟩
abbrev cX11_isNumber : ByteArray := prog_1_method_47_code
def yX11_isNumber : MethodName := ⟨RX11, "isNumber", "(II)Z"⟩
abbrev cX11_cartOne : ByteArray := prog_1_method_48_code
def yX11_cartOne : MethodName := ⟨RX11, "cartOne", "(III)I"⟩
abbrev cX11_cartFrom : ByteArray := prog_1_method_49_code
def yX11_cartFrom : MethodName := ⟨RX11, "cartFrom", "(LHotStack$Shelf;II)I"⟩
def RX12 : String := "HotStackModel"
def TX12 : u_T := fun k => match k with
  | 0 => ("HotStackModel", "code", "I", false)
  | 1 => ("HotStackModel", "high", "[I", true)
  | 2 => ("HotStackModel", "damp", "[I", true)
  | 3 => ("HotStackModel", "heat", "[I", true)
  | 4 => ("HotStackModel", "good", "[I", true)
  | 5 => ("HotStackModel", "salted", "[I", true)
  | 6 => ("HotStackModel", "loadOf", "[I", true)
  | 7 => ("HotStackModel", "chimneys", "[I", true)
  | 8 => ("HotStackModel", "told", "[I", true)
  | 9 => ("HotStackModel", "ledOf", "[I", true)
  | 10 => ("HotStackModel", "doneMany", "I", false)
  | 11 => ("HotStackModel", "undoneMany", "I", false)
  | 12 => ("HotStackModel", "changeOf", "[I", true)
  | 13 => ("HotStackModel", "changeAt", "[I", true)
  | 14 => ("HotStackModel", "before", "[I", true)
  | 15 => ("HotStackModel", "behind", "[I", true)
  | 16 => ("HotStackModel", "tape", "[B", true)
  | 17 => ("HotStackModel", "taped", "I", false)
  | 18 => ("HotStackModel", "here", "I", false)
  | 19 => ("HotStackModel", "fault", "I", false)
  | 20 => ("HotStackModel", "open", "I", false)
  | 21 => ("HotStackModel", "laid", "I", false)
  | 22 => ("HotStackModel", "act", "[B", true)
  | 23 => ("HotStackModel", "with", "[I", true)
  | 24 => ("HotStackModel", "lineMany", "[I", true)
  | 25 => ("HotStackModel", "testEnd", "[S", true)
  | 26 => ("HotStackModel", "lineEnd", "[S", true)
  | 27 => ("HotStackModel", "facts", "[I", true)
  | 28 => ("HotStackModel", "pile", "[I", true)
  | 29 => ("HotStackModel", "hasLaw", "Z", false)
  | 30 => ("HotStackModel", "high1", "[I", true)
  | 31 => ("HotStackModel", "damp1", "[I", true)
  | 32 => ("HotStackModel", "heat1", "[I", true)
  | 33 => ("HotStackModel", "good1", "[I", true)
  | 34 => ("HotStackModel", "salted1", "[I", true)
  | 35 => ("HotStackModel", "chimney1", "[I", true)
  | 36 => ("HotStackModel", "heat2", "[I", true)
  | 37 => ("HotStackModel", "hotOnes", "J", false)
  | 38 => ("HotStackModel", "bestRods", "J", false)
  | 39 => ("HotStackModel", "placed", "[I", true)
  | 40 => ("HotStackModel", "bestPlaced", "[I", true)
  | 41 => ("HotStackModel", "loadMany", "I", false)
  | 42 => ("HotStackModel", "leastHot", "I", false)
  | 43 => ("HotStackModel", "deeds", "[I", true)
  | 44 => ("HotStackModel", "deedsMany", "I", false)
  | 45 => ("HotStackModel", "turnDays", "I", false)
  | 46 => ("HotStackModel", "hottestRead", "I", false)
  | 47 => ("HotStackModel", "hasImage", "Z", false)
  | 48 => ("HotStackModel", "keptDay", "I", false)
  | 49 => ("HotStackModel", "keptRead", "I", false)
  | 50 => ("HotStackModel", "keptHigh", "[I", true)
  | 51 => ("HotStackModel", "keptCells", "[I", true)
  | 52 => ("HotStackModel", "keptLed", "[I", true)
  | 53 => ("HotStackModel", "bodies", "I", false)
  | 54 => ("HotStackModel", "kind", "[I", true)
  | 55 => ("HotStackModel", "traces", "I", false)
  | 56 => ("HotStackModel", "traced", "[I", true)
  | 57 => ("HotStackModel", "holds", "[I", true)
  | 58 => ("HotStackModel", "size", "[I", true)
  | 59 => ("HotStackModel", "elements", "[J", true)
  | _ => ("HotStackModel", "shifted", "[J", true)
def tyX12 : Nat → FieldType := fun k => match k with
  | 0 => .int
  | 1 => .array .int
  | 2 => .array .int
  | 3 => .array .int
  | 4 => .array .int
  | 5 => .array .int
  | 6 => .array .int
  | 7 => .array .int
  | 8 => .array .int
  | 9 => .array .int
  | 10 => .int
  | 11 => .int
  | 12 => .array .int
  | 13 => .array .int
  | 14 => .array .int
  | 15 => .array .int
  | 16 => .array .byte
  | 17 => .int
  | 18 => .int
  | 19 => .int
  | 20 => .int
  | 21 => .int
  | 22 => .array .byte
  | 23 => .array .int
  | 24 => .array .int
  | 25 => .array .short
  | 26 => .array .short
  | 27 => .array .int
  | 28 => .array .int
  | 29 => .boolean
  | 30 => .array .int
  | 31 => .array .int
  | 32 => .array .int
  | 33 => .array .int
  | 34 => .array .int
  | 35 => .array .int
  | 36 => .array .int
  | 37 => .long
  | 38 => .long
  | 39 => .array .int
  | 40 => .array .int
  | 41 => .int
  | 42 => .int
  | 43 => .array .int
  | 44 => .int
  | 45 => .int
  | 46 => .int
  | 47 => .boolean
  | 48 => .int
  | 49 => .int
  | 50 => .array .int
  | 51 => .array .int
  | 52 => .array .int
  | 53 => .int
  | 54 => .array .int
  | 55 => .int
  | 56 => .array .int
  | 57 => .array .int
  | 58 => .array .int
  | 59 => .array .long
  | _ => .array .long
abbrev wsX120 : List Cond := u_ws RX12 TX12 61
theorem nmX12 : ∀ a, a < 61 → ∀ b, b < 61 → a ≠ b → (TX12 a).2.1 ≠ (TX12 b).2.1 := by decide +kernel
theorem tyX12_ok : ∀ k, k < 61 → parseFieldDescriptor (TX12 k).2.2.1 = some (tyX12 k) := by decide +kernel
abbrev cX12_init : ByteArray := prog_14_method_1_code
def yX12_init : MethodName := ⟨RX12, "<init>", "()V"⟩
abbrev cX12_in : ByteArray := prog_14_method_3_code
def yX12_in : MethodName := ⟨RX12, "in", "(III)Z"⟩
abbrev cX12_has : ByteArray := prog_14_method_4_code
def yX12_has : MethodName := ⟨RX12, "has", "(II)Z"⟩
abbrev cX12_bitsOf : ByteArray := prog_14_method_5_code
def yX12_bitsOf : MethodName := ⟨RX12, "bitsOf", "(I)I"⟩
abbrev cX12_isColumn : ByteArray := prog_14_method_6_code
def yX12_isColumn : MethodName := ⟨RX12, "isColumn", "(I)Z"⟩
abbrev cX12_isCell : ByteArray := prog_14_method_7_code
def yX12_isCell : MethodName := ⟨RX12, "isCell", "(I)Z"⟩
abbrev cX12_addLoad : ByteArray := prog_14_method_8_code
def yX12_addLoad : MethodName := ⟨RX12, "addLoad", "(III)I"⟩
abbrev cX12_cart : ByteArray := prog_14_method_9_code
def yX12_cart : MethodName := ⟨RX12, "cart", "(II)I"⟩
abbrev cX12_loads : ByteArray := prog_14_method_10_code
def yX12_loads : MethodName := ⟨RX12, "loads", "(III)I"⟩
abbrev cX12_valueAt : ByteArray := prog_14_method_11_code
def yX12_valueAt : MethodName := ⟨RX12, "valueAt", "(II)I"⟩
abbrev cX12_lays : ByteArray := prog_14_method_12_code
def yX12_lays : MethodName := ⟨RX12, "lays", "(III)V"⟩
abbrev cX12_changes : ByteArray := prog_14_method_13_code
def yX12_changes : MethodName := ⟨RX12, "changes", "(III)I"⟩
abbrev cX12_undo : ByteArray := prog_14_method_14_code
def yX12_undo : MethodName := ⟨RX12, "undo", "()I"⟩
abbrev cX12_redo : ByteArray := prog_14_method_15_code
def yX12_redo : MethodName := ⟨RX12, "redo", "()I"⟩
abbrev cX12_isPlace : ByteArray := prog_14_method_16_code
def yX12_isPlace : MethodName := ⟨RX12, "isPlace", "(II)Z"⟩
abbrev cX12_mayHave : ByteArray := prog_14_method_17_code
def yX12_mayHave : MethodName := ⟨RX12, "mayHave", "(II)Z"⟩
abbrev cX12_mend : ByteArray := prog_14_method_18_code
def yX12_mend : MethodName := ⟨RX12, "mend", "(III)I"⟩
abbrev cX12_of : ByteArray := prog_14_method_19_code
def yX12_of : MethodName := ⟨RX12, "of", "(II)I"⟩
abbrev cX12_feed : ByteArray := prog_14_method_20_code
def yX12_feed : MethodName := ⟨RX12, "feed", "(I)I"⟩
abbrev cX12_look : ByteArray := prog_14_method_21_code
def yX12_look : MethodName := ⟨RX12, "look", "()I"⟩
abbrev cX12_wrong : ByteArray := prog_14_method_22_code
def yX12_wrong : MethodName := ⟨RX12, "wrong", "()V"⟩
abbrev cX12_addStep : ByteArray := prog_14_method_23_code
def yX12_addStep : MethodName := ⟨RX12, "addStep", "(II)V"⟩
abbrev cX12_nameOf : ByteArray := prog_14_method_24_code
def yX12_nameOf : MethodName := ⟨RX12, "nameOf", "(I)I"⟩
abbrev cX12_opens : ByteArray := prog_14_method_25_code
def yX12_opens : MethodName := ⟨RX12, "opens", "()Z"⟩
abbrev cX12_figure : ByteArray := prog_14_method_26_code
def yX12_figure : MethodName := ⟨RX12, "figure", "()V"⟩
abbrev cX12_operand : ByteArray := prog_14_method_27_code
def yX12_operand : MethodName := ⟨RX12, "operand", "()V"⟩
abbrev cX12_product : ByteArray := prog_14_method_28_code
def yX12_product : MethodName := ⟨RX12, "product", "()V"⟩
abbrev cX12_sum : ByteArray := prog_14_method_29_code
def yX12_sum : MethodName := ⟨RX12, "sum", "()V"⟩
abbrev cX12_compared : ByteArray := prog_14_method_30_code
def yX12_compared : MethodName := ⟨RX12, "compared", "()V"⟩
abbrev cX12_both : ByteArray := prog_14_method_31_code
def yX12_both : MethodName := ⟨RX12, "both", "()V"⟩
abbrev cX12_either : ByteArray := prog_14_method_32_code
def yX12_either : MethodName := ⟨RX12, "either", "()V"⟩
abbrev cX12_line : ByteArray := prog_14_method_33_code
def yX12_line : MethodName := ⟨RX12, "line", "()V"⟩
abbrev cX12_readText : ByteArray := prog_14_method_34_code
def yX12_readText : MethodName := ⟨RX12, "readText", "(I)I"⟩
abbrev cX12_twoOf : ByteArray := prog_14_method_35_code
def yX12_twoOf : MethodName := ⟨RX12, "twoOf", "(III)I"⟩
abbrev cX12_worked : ByteArray := prog_14_method_36_code
def yX12_worked : MethodName := ⟨RX12, "worked", "(III)I"⟩
abbrev cX12_gives : ByteArray := prog_14_method_37_code
def yX12_gives : MethodName := ⟨RX12, "gives", "(I)I"⟩
abbrev cX12_law : ByteArray := prog_14_method_38_code
def yX12_law : MethodName := ⟨RX12, "law", "()I"⟩
abbrev cX12_layNow : ByteArray := prog_14_method_39_code
def yX12_layNow : MethodName := ⟨RX12, "layNow", "()V"⟩
abbrev cX12_isThere : ByteArray := prog_14_method_40_code
def yX12_isThere : MethodName := ⟨RX12, "isThere", "(II)Z"⟩
abbrev cX12_beside : ByteArray := prog_14_method_41_code
def yX12_beside : MethodName := ⟨RX12, "beside", "(II)I"⟩
abbrev cX12_airOf : ByteArray := prog_14_method_42_code
def yX12_airOf : MethodName := ⟨RX12, "airOf", "(I)I"⟩
abbrev cX12_meanBeside : ByteArray := prog_14_method_43_code
def yX12_meanBeside : MethodName := ⟨RX12, "meanBeside", "(I)I"⟩
abbrev cX12_heatsBy : ByteArray := prog_14_method_44_code
def yX12_heatsBy : MethodName := ⟨RX12, "heatsBy", "(I)I"⟩
abbrev cX12_heats : ByteArray := prog_14_method_45_code
def yX12_heats : MethodName := ⟨RX12, "heats", "(I)I"⟩
abbrev cX12_isThereNow : ByteArray := prog_14_method_46_code
def yX12_isThereNow : MethodName := ⟨RX12, "isThereNow", "(I)Z"⟩
abbrev cX12_goDay : ByteArray := prog_14_method_47_code
def yX12_goDay : MethodName := ⟨RX12, "goDay", "()V"⟩
abbrev cX12_goDays : ByteArray := prog_14_method_48_code
def yX12_goDays : MethodName := ⟨RX12, "goDays", "(I)V"⟩
abbrev cX12_hottest : ByteArray := prog_14_method_49_code
def yX12_hottest : MethodName := ⟨RX12, "hottest", "()I"⟩
abbrev cX12_hottestHeat : ByteArray := prog_14_method_50_code
def yX12_hottestHeat : MethodName := ⟨RX12, "hottestHeat", "()I"⟩
abbrev cX12_glowMany : ByteArray := prog_14_method_51_code
def yX12_glowMany : MethodName := ⟨RX12, "glowMany", "()I"⟩
abbrev cX12_allGood : ByteArray := prog_14_method_52_code
def yX12_allGood : MethodName := ⟨RX12, "allGood", "()I"⟩
abbrev cX12_areDays : ByteArray := prog_14_method_53_code
def yX12_areDays : MethodName := ⟨RX12, "areDays", "(I)Z"⟩
abbrev cX12_later : ByteArray := prog_14_method_54_code
def yX12_later : MethodName := ⟨RX12, "later", "(III)I"⟩
abbrev cX12_stack : ByteArray := prog_14_method_55_code
def yX12_stack : MethodName := ⟨RX12, "stack", "(II)I"⟩
abbrev cX12_first : ByteArray := prog_14_method_56_code
def yX12_first : MethodName := ⟨RX12, "first", "(II)I"⟩
abbrev cX12_reachOf : ByteArray := prog_14_method_57_code
def yX12_reachOf : MethodName := ⟨RX12, "reachOf", "(I)J"⟩
abbrev cX12_goRods : ByteArray := prog_14_method_58_code
def yX12_goRods : MethodName := ⟨RX12, "goRods", "(IIJJ)V"⟩
abbrev cX12_findRods : ByteArray := prog_14_method_59_code
def yX12_findRods : MethodName := ⟨RX12, "findRods", "(I)I"⟩
abbrev cX12_rods : ByteArray := prog_14_method_60_code
def yX12_rods : MethodName := ⟨RX12, "rods", "(I)I"⟩
abbrev cX12_rodsAt : ByteArray := prog_14_method_61_code
def yX12_rodsAt : MethodName := ⟨RX12, "rodsAt", "(I)J"⟩
abbrev cX12_turnNow : ByteArray := prog_14_method_62_code
def yX12_turnNow : MethodName := ⟨RX12, "turnNow", "(I)V"⟩
abbrev cX12_hottestBy : ByteArray := prog_14_method_63_code
def yX12_hottestBy : MethodName := ⟨RX12, "hottestBy", "(II)I"⟩
abbrev cX12_turn : ByteArray := prog_14_method_64_code
def yX12_turn : MethodName := ⟨RX12, "turn", "(III)I"⟩
abbrev cX12_chimney : ByteArray := prog_14_method_65_code
def yX12_chimney : MethodName := ⟨RX12, "chimney", "(II)I"⟩
abbrev cX12_staysCool : ByteArray := prog_14_method_66_code
def yX12_staysCool : MethodName := ⟨RX12, "staysCool", "(I)Z"⟩
abbrev cX12_latest : ByteArray := prog_14_method_67_code
def yX12_latest : MethodName := ⟨RX12, "latest", "()I"⟩
abbrev cX12_rowFault : ByteArray := prog_14_method_68_code
def yX12_rowFault : MethodName := ⟨RX12, "rowFault", "(I)I"⟩
abbrev cX12_at : ByteArray := prog_14_method_69_code
def yX12_at : MethodName := ⟨RX12, "at", "(II)I"⟩
abbrev cX12_goLay : ByteArray := prog_14_method_70_code
def yX12_goLay : MethodName := ⟨RX12, "goLay", "(IIII)V"⟩
abbrev cX12_lay : ByteArray := prog_14_method_71_code
def yX12_lay : MethodName := ⟨RX12, "lay", "(III)I"⟩
abbrev cX12_worthNow : ByteArray := prog_14_method_72_code
def yX12_worthNow : MethodName := ⟨RX12, "worthNow", "()I"⟩
abbrev cX12_worth : ByteArray := prog_14_method_73_code
def yX12_worth : MethodName := ⟨RX12, "worth", "()I"⟩
abbrev cX12_sell : ByteArray := prog_14_method_74_code
def yX12_sell : MethodName := ⟨RX12, "sell", "(III)I"⟩
abbrev cX12_goneOf : ByteArray := prog_14_method_75_code
def yX12_goneOf : MethodName := ⟨RX12, "goneOf", "(I)I"⟩
abbrev cX12_whose : ByteArray := prog_14_method_76_code
def yX12_whose : MethodName := ⟨RX12, "whose", "()I"⟩
abbrev cX12_wrongDay : ByteArray := prog_14_method_77_code
def yX12_wrongDay : MethodName := ⟨RX12, "wrongDay", "(II)I"⟩
abbrev cX12_judge : ByteArray := prog_14_method_78_code
def yX12_judge : MethodName := ⟨RX12, "judge", "(II)I"⟩
abbrev cX12_saltedBits : ByteArray := prog_14_method_79_code
def yX12_saltedBits : MethodName := ⟨RX12, "saltedBits", "(III)I"⟩
abbrev cX12_book : ByteArray := prog_14_method_80_code
def yX12_book : MethodName := ⟨RX12, "book", "(III)I"⟩
abbrev cX12_wetNow : ByteArray := prog_14_method_81_code
def yX12_wetNow : MethodName := ⟨RX12, "wetNow", "(I)V"⟩
abbrev cX12_endsHot : ByteArray := prog_14_method_82_code
def yX12_endsHot : MethodName := ⟨RX12, "endsHot", "()I"⟩
abbrev cX12_byDeed : ByteArray := prog_14_method_83_code
def yX12_byDeed : MethodName := ⟨RX12, "byDeed", "(II)I"⟩
abbrev cX12_bestOf : ByteArray := prog_14_method_84_code
def yX12_bestOf : MethodName := ⟨RX12, "bestOf", "(I)I"⟩
abbrev cX12_byTurns : ByteArray := prog_14_method_85_code
def yX12_byTurns : MethodName := ⟨RX12, "byTurns", "(II)I"⟩
abbrev cX12_drawn : ByteArray := prog_14_method_86_code
def yX12_drawn : MethodName := ⟨RX12, "drawn", "(III)I"⟩
abbrev cX12_layBack : ByteArray := prog_14_method_87_code
def yX12_layBack : MethodName := ⟨RX12, "layBack", "()V"⟩
abbrev cX12_turned : ByteArray := prog_14_method_88_code
def yX12_turned : MethodName := ⟨RX12, "turned", "(I)I"⟩
abbrev cX12_salt : ByteArray := prog_14_method_89_code
def yX12_salt : MethodName := ⟨RX12, "salt", "(I)I"⟩
abbrev cX12_read : ByteArray := prog_14_method_90_code
def yX12_read : MethodName := ⟨RX12, "read", "(I)I"⟩
abbrev cX12_day : ByteArray := prog_14_method_91_code
def yX12_day : MethodName := ⟨RX12, "day", "()I"⟩
abbrev cX12_led : ByteArray := prog_14_method_92_code
def yX12_led : MethodName := ⟨RX12, "led", "(I)I"⟩
abbrev cX12_image : ByteArray := prog_14_method_93_code
def yX12_image : MethodName := ⟨RX12, "image", "()I"⟩
abbrev cX12_back : ByteArray := prog_14_method_94_code
def yX12_back : MethodName := ⟨RX12, "back", "()I"⟩
abbrev cX12_isBody : ByteArray := prog_14_method_95_code
def yX12_isBody : MethodName := ⟨RX12, "isBody", "(I)Z"⟩
abbrev cX12_ran : ByteArray := prog_14_method_96_code
def yX12_ran : MethodName := ⟨RX12, "ran", "(I)V"⟩
abbrev cX12_trace : ByteArray := prog_14_method_97_code
def yX12_trace : MethodName := ⟨RX12, "trace", "(I)I"⟩
abbrev cX12_body : ByteArray := prog_14_method_98_code
def yX12_body : MethodName := ⟨RX12, "body", "(I)I"⟩
abbrev cX12_isUnder : ByteArray := prog_14_method_99_code
def yX12_isUnder : MethodName := ⟨RX12, "isUnder", "(II)Z"⟩
abbrev cX12_plainReads : ByteArray := prog_14_method_100_code
def yX12_plainReads : MethodName := ⟨RX12, "plainReads", "(II)I"⟩
abbrev cX12_saltReads : ByteArray := prog_14_method_101_code
def yX12_saltReads : MethodName := ⟨RX12, "saltReads", "(II)I"⟩
abbrev cX12_reading : ByteArray := prog_14_method_102_code
def yX12_reading : MethodName := ⟨RX12, "reading", "(II)I"⟩
abbrev cX12_plainHeats : ByteArray := prog_14_method_103_code
def yX12_plainHeats : MethodName := ⟨RX12, "plainHeats", "(II)I"⟩
abbrev cX12_smokeHeats : ByteArray := prog_14_method_104_code
def yX12_smokeHeats : MethodName := ⟨RX12, "smokeHeats", "(II)I"⟩
abbrev cX12_heating : ByteArray := prog_14_method_105_code
def yX12_heating : MethodName := ⟨RX12, "heating", "(II)I"⟩
abbrev cX12_plainOpens : ByteArray := prog_14_method_106_code
def yX12_plainOpens : MethodName := ⟨RX12, "plainOpens", "(II)I"⟩
abbrev cX12_chimneyOpens : ByteArray := prog_14_method_107_code
def yX12_chimneyOpens : MethodName := ⟨RX12, "chimneyOpens", "(II)I"⟩
abbrev cX12_opening : ByteArray := prog_14_method_108_code
def yX12_opening : MethodName := ⟨RX12, "opening", "(II)I"⟩
abbrev cX12_plainTells : ByteArray := prog_14_method_109_code
def yX12_plainTells : MethodName := ⟨RX12, "plainTells", "(II)I"⟩
abbrev cX12_telling : ByteArray := prog_14_method_110_code
def yX12_telling : MethodName := ⟨RX12, "telling", "(II)I"⟩
abbrev cX12_act : ByteArray := prog_14_method_111_code
def yX12_act : MethodName := ⟨RX12, "act", "(III)I"⟩
abbrev cX12_cellMany : ByteArray := prog_14_method_112_code
def yX12_cellMany : MethodName := ⟨RX12, "cellMany", "()I"⟩
abbrev cX12_glowsNow : ByteArray := prog_14_method_113_code
def yX12_glowsNow : MethodName := ⟨RX12, "glowsNow", "()I"⟩
abbrev cX12_count : ByteArray := prog_14_method_114_code
def yX12_count : MethodName := ⟨RX12, "count", "(I)I"⟩
abbrev cX12_isShelf : ByteArray := prog_14_method_115_code
def yX12_isShelf : MethodName := ⟨RX12, "isShelf", "(I)Z"⟩
abbrev cX12_keep : ByteArray := prog_14_method_116_code
def yX12_keep : MethodName := ⟨RX12, "keep", "(II)I"⟩
abbrev cX12_row : ByteArray := prog_14_method_117_code
def yX12_row : MethodName := ⟨RX12, "row", "(III)I"⟩
abbrev cX12_whyNoPlace : ByteArray := prog_14_method_118_code
def yX12_whyNoPlace : MethodName := ⟨RX12, "whyNoPlace", "(II)I"⟩
abbrev cX12_put : ByteArray := prog_14_method_119_code
def yX12_put : MethodName := ⟨RX12, "put", "(IIJ)I"⟩
abbrev cX12_element : ByteArray := prog_14_method_120_code
def yX12_element : MethodName := ⟨RX12, "element", "(II)J"⟩
abbrev cX12_shift : ByteArray := prog_14_method_121_code
def yX12_shift : MethodName := ⟨RX12, "shift", "(IIIII)I"⟩
abbrev cX12_taken : ByteArray := prog_14_method_122_code
def yX12_taken : MethodName := ⟨RX12, "taken", "(II)I"⟩
def RJ6 : String := "java/lang/Integer"
def TJ6 : u_T := fun k => match k with
  | _ => ("", "", "", false)
def tyJ6 : Nat → FieldType := fun k => match k with
  | _ => .int
abbrev wsJ60 : List Cond := u_ws RJ6 TJ6 0
theorem nmJ6 : ∀ a, a < 0 → ∀ b, b < 0 → a ≠ b → (TJ6 a).2.1 ≠ (TJ6 b).2.1 := by decide +kernel
theorem tyJ6_ok : ∀ k, k < 0 → parseFieldDescriptor (TJ6 k).2.2.1 = some (tyJ6 k) := by decide +kernel
abbrev cJ6_bitCount_0f7a4 : ByteArray := prog_15_method_49_code
def yJ6_bitCount_0f7a4 : MethodName := ⟨RJ6, "bitCount", "(I)I"⟩
def RJ9 : String := "java/lang/Math"
def TJ9 : u_T := fun k => match k with
  | _ => ("", "", "", false)
def tyJ9 : Nat → FieldType := fun k => match k with
  | _ => .int
abbrev wsJ90 : List Cond := u_ws RJ9 TJ9 0
theorem nmJ9 : ∀ a, a < 0 → ∀ b, b < 0 → a ≠ b → (TJ9 a).2.1 ≠ (TJ9 b).2.1 := by decide +kernel
theorem tyJ9_ok : ∀ k, k < 0 → parseFieldDescriptor (TJ9 k).2.2.1 = some (tyJ9 k) := by decide +kernel
abbrev cJ9_max_7cf53 : ByteArray := prog_16_method_65_code
def yJ9_max_7cf53 : MethodName := ⟨RJ9, "max", "(II)I"⟩
abbrev cJ9_min_7cf53 : ByteArray := prog_16_method_69_code
def yJ9_min_7cf53 : MethodName := ⟨RJ9, "min", "(II)I"⟩
def RJ10 : String := "java/lang/System"
def TJ10 : u_T := fun k => match k with
  | _ => ("", "", "", false)
def tyJ10 : Nat → FieldType := fun k => match k with
  | _ => .int
abbrev wsJ100 : List Cond := u_ws RJ10 TJ10 0
theorem nmJ10 : ∀ a, a < 0 → ∀ b, b < 0 → a ≠ b → (TJ10 a).2.1 ≠ (TJ10 b).2.1 := by decide +kernel
theorem tyJ10_ok : ∀ k, k < 0 → parseFieldDescriptor (TJ10 k).2.2.1 = some (tyJ10 k) := by decide +kernel
def RL : String := "HotStackLaw"
abbrev cL_law : ByteArray := code
def yL_law : MethodName := ⟨RL, "law", "([I)Z"⟩
abbrev vwCl : List vw_C := [(RX0, TX0, 5), (RX1, TX1, 2), (RX2, TX2, 6), (RX3, TX3, 6), (RX4, TX4, 12), (RX5, TX5, 8), (RX6, TX6, 7), (RX7, TX7, 3), (RX8, TX8, 5), (RX9, TX9, 10), (RX10, TX10, 4), (RX11, TX11, 13), (RX12, TX12, 61)]
