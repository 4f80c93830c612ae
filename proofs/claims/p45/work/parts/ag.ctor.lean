/-! part ag: worlds in another order; constructors called -/
theorem xD_nd {A : Nat → Prop} {w : va_W} : va_D A w ↔ (w.map Prod.fst).Nodup ∧ ∀ q ∈ w, A q.1 := by
  constructor
  · rintro ⟨h1, h2⟩
    refine ⟨List.pairwise_iff_getElem.mpr fun i j hi hj hij e => ?_, fun q hq => ?_⟩
    · rw [List.length_map] at hi hj
      rw [List.getElem_map, List.getElem_map] at e
      have := h1 i j w[i] w[j] (List.getElem?_eq_getElem _) (List.getElem?_eq_getElem _) e
      omega
    · obtain ⟨i, hi⟩ := List.getElem?_of_mem hq
      exact h2 i q hi
  · rintro ⟨h1, h2⟩
    refine ⟨fun i j p q hp hq e => ?_, fun k q hk => h2 q (List.mem_of_getElem? hk)⟩
    have key : ∀ (i j : Nat) (p q : Nat × va_E), w[i]? = some p → w[j]? = some q → p.1 = q.1 → ¬ i < j := by
      intro i j p q hp hq e hij
      obtain ⟨hi, rfl⟩ := List.getElem?_eq_some_iff.mp hp
      obtain ⟨hj, rfl⟩ := List.getElem?_eq_some_iff.mp hq
      refine List.pairwise_iff_getElem.mp h1 i j (by rw [List.length_map]; exact hi) (by rw [List.length_map]; exact hj) hij ?_
      rw [List.getElem_map, List.getElem_map]
      exact e
    have h3 := key i j p q hp hq e
    have h4 := key j i q p hq hp e.symm
    omega
theorem xD_perm {A : Nat → Prop} {w w' : va_W} (h : va_D A w) (hp : w.Perm w') : va_D A w' := by
  rw [xD_nd] at h ⊢
  exact ⟨(hp.map Prod.fst).nodup_iff.mp h.1, fun q hq => h.2 q (hp.mem_iff.mpr hq)⟩
theorem xP_perm {D : va_G} {cl : List vw_C} {w w' : va_W} {H : Heap} (h : va_P D cl w H) (hp : w.Perm w') : va_P D cl w' H := by
  intro k q hk
  obtain ⟨i, hi⟩ := List.getElem?_of_mem (hp.mem_iff.mpr (List.mem_of_getElem? hk))
  exact h i q hi
theorem xR_1 (w1 w2 : va_W) : (List.range w1.length).map (fun i => (w1 ++ w2)[i]?) = w1.map some := by
  apply List.ext_getElem?
  intro i
  rw [List.getElem?_map, List.getElem?_map]
  by_cases h : i < w1.length
  · rw [List.getElem?_range h, Option.map_some, List.getElem?_append_left h, List.getElem?_eq_getElem h]; rfl
  · rw [List.getElem?_eq_none (by simpa using h), List.getElem?_eq_none (by omega)]; rfl
theorem xR_2 (w1 w2 : va_W) : ((List.range w2.length).map (· + w1.length)).map (fun i => (w1 ++ w2)[i]?) = w2.map some := by
  apply List.ext_getElem?
  intro i
  rw [List.getElem?_map, List.getElem?_map, List.getElem?_map]
  by_cases h : i < w2.length
  · rw [List.getElem?_range h, Option.map_some, Option.map_some, List.getElem?_append_right (by omega), Nat.add_sub_cancel, List.getElem?_eq_getElem h]; rfl
  · rw [List.getElem?_eq_none (by simpa using h), List.getElem?_eq_none (by omega)]; rfl
theorem xnd_of : ∀ (l : List Nat), l.Nodup → va_nd l = true
  | [], _ => rfl
  | a :: l, h => by
    rw [List.nodup_cons] at h
    simp only [va_nd, Bool.and_eq_true, decide_eq_true_eq]
    exact ⟨h.1, xnd_of l h.2⟩
theorem x_join {A0 : Nat → Prop} {D : va_G} {cl : List vw_C} {wr wc w1 : va_W} {H H1 : Heap} (hP : va_P D cl (wr ++ wc) H) (hD : va_D A0 (wr ++ wc)) (hk : ∀ q : Nat, q < H.size → ¬ va_A wc H.size q → H1[q]? = H[q]?) (hF : ∀ q, va_A wc H.size q → A0 q) (hP1 : va_P D cl w1 H1) (hD1 : va_D (va_A wc H.size) w1) : va_P D cl (wr ++ w1) H1 ∧ va_D A0 (wr ++ w1) :=
  va_join hP hD ((List.range wc.length).map (· + wr.length)) (List.range wr.length) (xR_2 wr wc) (xR_1 wr wc) (xnd_of _ List.nodup_range) (fun i hi hj => by
    obtain ⟨j, hj1, hj2⟩ := List.mem_map.mp hj
    have h1 := List.mem_range.mp hi
    omega) hk hF hP1 hD1
theorem x_free {A0 : Nat → Prop} {wr wc : va_W} {H0 H : Heap} {locs : List Loc} (hD : va_D A0 (wr ++ wc)) (hS : va_S A0 H0 H locs) (hA : ∀ q, H0.size ≤ q → A0 q) : ∀ q, va_A wc H.size q → A0 q :=
  va_free hD hS hA ((List.range wc.length).map (· + wr.length)) (xR_2 wr wc)
theorem x_leaf_bl {D : va_G} {cl : List vw_C} {tys : List (ClassId × FieldType)} {ws : va_W} {sz : Nat} {av : List Value} : FrameBlind (va_Pc av (fun U => U.heap.size = sz ∧ va_P D cl ws U.heap ∧ va_K D cl tys U ∧ va_D (fun _ => True) ws)) := by
  intro b U g mk q
  obtain ⟨q0, q1, qP, qK, qD⟩ := q
  exact ⟨q0, q1, qP, va_K.moved (u := U) (U := U.calling g mk b) (Vm.Alike.refl U.vm) qK, qD⟩
theorem x_leafA_bl {D : va_G} {cl : List vw_C} {tys : List (ClassId × FieldType)} {ws : va_W} {sz : Nat} {av : List Value} {C : String} : FrameBlind (va_Pc av (fun U => U.heap.size = sz ∧ va_P D cl ws U.heap ∧ va_K D cl tys U ∧ va_D (fun _ => True) ws ∧ va_AO C U)) := by
  intro b U g mk q
  obtain ⟨q0, q1, qP, qK, qD, qO⟩ := q
  exact ⟨q0, q1, qP, va_K.moved (u := U) (U := U.calling g mk b) (Vm.Alike.refl U.vm) qK, qD, va_AO.moved (u := U) (U := U.calling g mk b) (Vm.Alike.refl U.vm) qO⟩
section XM
variable {p : Program} {l : Launch} {e : Env} {R : Room} {s : State} {m : MethodId} {args : Array Value} {below : List Frame} {meth : Method} {c : Code} {H H0 : Heap} {locs : List Loc} {Q : State → Prop}
variable {cc : ByteArray} {pc : Nat} {ls : Array Slot} {rest : List Value} {D : va_G} {A : Nat → Prop} {cl : List vw_C} {tys : List (ClassId × FieldType)} {cells slots : Nat}
theorem x_ctor {own : String} {nL : Nat} (hx : p.tables.exec = Jvm.exec) (hb : c.code = cc) (hml : c.maxLocals = nL) (hown : s.vm.findClass own = some m.cls) {Ts : List Cond} (hts : ∀ w ∈ Ts, w.before args s = true)
    {y : MethodName} {bytes : ByteArray} {mxL index n mc ms fr lc : Nat} (hG : GoodIn Ts (Cond.code y bytes mxL none :: xTB)) (hini : Cond.initialized y.cls ∈ Ts) (hlk : Cond.methodLink own index y ∈ Ts) (hyd : y.cls ≠ "java/lang/invoke/MethodHandle" ∧ y.cls ≠ "java/lang/invoke/VarHandle" ∧ (parseMethodDescriptor y.desc).map (fun d => d.parameters.length) = some n) (hy : y.name = "<init>") (hin : Cond.instanceMethod y ∈ Ts)
    {wr wc : va_W} (hP : va_P D cl (wr ++ wc) H) (hD : va_D A (wr ++ wc)) (hS : va_S A H0 H locs) (hA : ∀ q, H0.size ≤ q → A q)
    {q : Nat} (As : List Value) {st : List Value} {B Pre : State → Prop}
    (hMet : Met l y (Cond.code y bytes mxL none :: xTB) ({ frames := fr, cells := mc, slots := ms, locals := lc } : Room) (va_Pc (.ref q :: As) Pre) (va_Qv (fun _ : Unit => True) (fun _ t => B t) (va_A wc H.size)) mc ms (va_A wc H.size))
    (hbl : FrameBlind (va_Pc (.ref q :: As) Pre)) (hpre : ∀ U : State, U.heap = H → s.WarmedH U.vm → Pre U)
    (hR : fr + 1 ≤ R.frames ∧ 8 + (mxL + 11) + lc ≤ R.locals) (hcells : cells + mc ≤ R.cells) (hslots : slots + ms ≤ R.slots) (hn : As.length = n) (hls : ls.size = nL) (hst : st = As.reverse ++ .ref q :: rest) (hrm : (rest.map fun v => v.category).sum ≤ 8) (hd : decode cc pc = .ok (.invokespecial index, 3))
    (kk : ∀ (t : State) (H1 : Heap) (locs1 : List Loc), t.heap = H1 → B t → (∀ w1, va_P D cl w1 H1 → va_D (va_A wc H.size) w1 → va_P D cl (wr ++ w1) H1 ∧ va_D A (wr ++ w1)) → va_S A H0 H1 locs1 → W p l e R s m args below meth c H1 locs1 (cells + mc) (slots + ms) Q (F0 m (pc + 3) ls rest)) : W p l e R s m args below meth c H locs cells slots Q (F0 m pc ls st) := by
  have hF := x_free hD hS hA
  exact va_callv (va_runI (As := As) (rest := rest) ⟨hx, hb, hml, hown, hts⟩ hMet ⟨callB_of n hts hG rfl rfl rfl (hts _ hini) (hts _ hlk) hyd hR, hy, hts _ hin⟩ ⟨hbl, fun U hU hW => ⟨rfl, hpre U hU hW⟩⟩ rfl hn hls hst (lv_room hrm) hd ⟨hcells, hslots⟩) hS (fun q _ h => hF q h) hF (fun u t H1 locs1 ht hvm hw hB hz1 hk1 hS1 => kk t H1 locs1 ht hB (fun w1 h1 h2 => x_join hP hD hk1 hF h1 h2) hS1)
theorem x_cleaf {own : String} {nL : Nat} (hx : p.tables.exec = Jvm.exec) (hb : c.code = cc) (hml : c.maxLocals = nL) (hown : s.vm.findClass own = some m.cls) {Ts : List Cond} (hts : ∀ w ∈ Ts, w.before args s = true)
    {y : MethodName} {bytes : ByteArray} {mxL index n mc ms fr lc : Nat} (hG : GoodIn Ts (Cond.code y bytes mxL none :: xTB)) (hini : Cond.initialized y.cls ∈ Ts) (hlk : Cond.methodLink own index y ∈ Ts) (hyd : y.cls ≠ "java/lang/invoke/MethodHandle" ∧ y.cls ≠ "java/lang/invoke/VarHandle" ∧ (parseMethodDescriptor y.desc).map (fun d => d.parameters.length) = some n) (hy : y.name = "<init>") (hin : Cond.instanceMethod y ∈ Ts)
    (hK : va_K D cl tys s) {wr wc : va_W} (hP : va_P D cl (wr ++ wc) H) (hD : va_D A (wr ++ wc)) (hS : va_S A H0 H locs) (hA : ∀ q, H0.size ≤ q → A q)
    {q : Nat} (As : List Value) {st : List Value} {B : State → Prop}
    (hMet : Met l y (Cond.code y bytes mxL none :: xTB) ({ frames := fr, cells := mc, slots := ms, locals := lc } : Room) (va_Pc (.ref q :: As) (fun U => U.heap.size = H.size ∧ va_P D cl wc U.heap ∧ va_K D cl tys U ∧ va_D (fun _ => True) wc)) (va_Qv (fun _ : Unit => True) (fun _ t => B t) (va_A wc H.size)) mc ms (va_A wc H.size))
    (hR : fr + 1 ≤ R.frames ∧ 8 + (mxL + 11) + lc ≤ R.locals) (hcells : cells + mc ≤ R.cells) (hslots : slots + ms ≤ R.slots) (hn : As.length = n) (hls : ls.size = nL) (hst : st = As.reverse ++ .ref q :: rest) (hrm : (rest.map fun v => v.category).sum ≤ 8) (hd : decode cc pc = .ok (.invokespecial index, 3))
    (kk : ∀ (t : State) (H1 : Heap) (locs1 : List Loc), t.heap = H1 → B t → (∀ w1, va_P D cl w1 H1 → va_D (va_A wc H.size) w1 → va_P D cl (wr ++ w1) H1 ∧ va_D A (wr ++ w1)) → va_S A H0 H1 locs1 → W p l e R s m args below meth c H1 locs1 (cells + mc) (slots + ms) Q (F0 m (pc + 3) ls rest)) : W p l e R s m args below meth c H locs cells slots Q (F0 m pc ls st) :=
  x_ctor hx hb hml hown hts hG hini hlk hyd hy hin hP hD hS hA As hMet x_leaf_bl (fun U hU hW => ⟨by rw [hU], by
    rw [hU]
    exact fun k q hk => hP (wr.length + k) q (by rw [List.getElem?_append_right (by omega), Nat.add_sub_cancel_left]; exact hk), va_K.moved hW.alike hK, by
    have h2 := hD.sub ((List.range wc.length).map (· + wr.length)) (xnd_of _ (List.Pairwise.map _ (fun _ _ h e => h (Nat.add_right_cancel e)) List.nodup_range)) (xR_2 wr wc)
    exact h2.weaken (fun _ _ _ _ => trivial)⟩) hR hcells hslots hn hls hst hrm hd kk
theorem x_ctorN {own : String} {nL : Nat} (hx : p.tables.exec = Jvm.exec) (hb : c.code = cc) (hml : c.maxLocals = nL) (hown : s.vm.findClass own = some m.cls) {Ts : List Cond} (hts : ∀ w ∈ Ts, w.before args s = true)
    {y : MethodName} {bytes : ByteArray} {mxL index n mc ms fr lc : Nat} (hG : GoodIn Ts (Cond.code y bytes mxL none :: xTB)) (hini : Cond.initialized y.cls ∈ Ts) {host : String} (hlk : va_Nw (.methodLinkNest own index y host) s) (hyd : y.cls ≠ "java/lang/invoke/MethodHandle" ∧ y.cls ≠ "java/lang/invoke/VarHandle" ∧ (parseMethodDescriptor y.desc).map (fun d => d.parameters.length) = some n) (hy : y.name = "<init>") (hin : Cond.instanceMethod y ∈ Ts)
    {wr wc : va_W} (hP : va_P D cl (wr ++ wc) H) (hD : va_D A (wr ++ wc)) (hS : va_S A H0 H locs) (hA : ∀ q, H0.size ≤ q → A q)
    {q : Nat} (As : List Value) {st : List Value} {B Pre : State → Prop}
    (hMet : Met l y (Cond.code y bytes mxL none :: xTB) ({ frames := fr, cells := mc, slots := ms, locals := lc } : Room) (va_Pc (.ref q :: As) Pre) (va_Qv (fun _ : Unit => True) (fun _ t => B t) (va_A wc H.size)) mc ms (va_A wc H.size))
    (hbl : FrameBlind (va_Pc (.ref q :: As) Pre)) (hpre : ∀ U : State, U.heap = H → s.WarmedH U.vm → Pre U)
    (hR : fr + 1 ≤ R.frames ∧ 8 + (mxL + 11) + lc ≤ R.locals) (hcells : cells + mc ≤ R.cells) (hslots : slots + ms ≤ R.slots) (hn : As.length = n) (hls : ls.size = nL) (hst : st = As.reverse ++ .ref q :: rest) (hrm : (rest.map fun v => v.category).sum ≤ 8) (hd : decode cc pc = .ok (.invokespecial index, 3))
    (kk : ∀ (t : State) (H1 : Heap) (locs1 : List Loc), t.heap = H1 → B t → (∀ w1, va_P D cl w1 H1 → va_D (va_A wc H.size) w1 → va_P D cl (wr ++ w1) H1 ∧ va_D A (wr ++ w1)) → va_S A H0 H1 locs1 → W p l e R s m args below meth c H1 locs1 (cells + mc) (slots + ms) Q (F0 m (pc + 3) ls rest)) : W p l e R s m args below meth c H locs cells slots Q (F0 m pc ls st) := by
  have hF := x_free hD hS hA
  exact va_callv (va_runIN (As := As) (rest := rest) ⟨hx, hb, hml, hown, hts⟩ hMet ⟨va_cnB n hts hG rfl rfl rfl hlk (hts _ hini) hyd hR, hy, hts _ hin⟩ ⟨hbl, fun U hU hW => ⟨rfl, hpre U hU hW⟩⟩ rfl hn hls hst (lv_room hrm) hd ⟨hcells, hslots⟩) hS (fun q _ h => hF q h) hF (fun u t H1 locs1 ht hvm hw hB hz1 hk1 hS1 => kk t H1 locs1 ht hB (fun w1 h1 h2 => x_join hP hD hk1 hF h1 h2) hS1)
theorem x_cleafN {own : String} {nL : Nat} (hx : p.tables.exec = Jvm.exec) (hb : c.code = cc) (hml : c.maxLocals = nL) (hown : s.vm.findClass own = some m.cls) {Ts : List Cond} (hts : ∀ w ∈ Ts, w.before args s = true)
    {y : MethodName} {bytes : ByteArray} {mxL index n mc ms fr lc : Nat} (hG : GoodIn Ts (Cond.code y bytes mxL none :: xTB)) (hini : Cond.initialized y.cls ∈ Ts) {host : String} (hlk : va_Nw (.methodLinkNest own index y host) s) (hyd : y.cls ≠ "java/lang/invoke/MethodHandle" ∧ y.cls ≠ "java/lang/invoke/VarHandle" ∧ (parseMethodDescriptor y.desc).map (fun d => d.parameters.length) = some n) (hy : y.name = "<init>") (hin : Cond.instanceMethod y ∈ Ts)
    (hK : va_K D cl tys s) {wr wc : va_W} (hP : va_P D cl (wr ++ wc) H) (hD : va_D A (wr ++ wc)) (hS : va_S A H0 H locs) (hA : ∀ q, H0.size ≤ q → A q)
    {q : Nat} (As : List Value) {st : List Value} {B : State → Prop}
    (hMet : Met l y (Cond.code y bytes mxL none :: xTB) ({ frames := fr, cells := mc, slots := ms, locals := lc } : Room) (va_Pc (.ref q :: As) (fun U => U.heap.size = H.size ∧ va_P D cl wc U.heap ∧ va_K D cl tys U ∧ va_D (fun _ => True) wc)) (va_Qv (fun _ : Unit => True) (fun _ t => B t) (va_A wc H.size)) mc ms (va_A wc H.size))
    (hR : fr + 1 ≤ R.frames ∧ 8 + (mxL + 11) + lc ≤ R.locals) (hcells : cells + mc ≤ R.cells) (hslots : slots + ms ≤ R.slots) (hn : As.length = n) (hls : ls.size = nL) (hst : st = As.reverse ++ .ref q :: rest) (hrm : (rest.map fun v => v.category).sum ≤ 8) (hd : decode cc pc = .ok (.invokespecial index, 3))
    (kk : ∀ (t : State) (H1 : Heap) (locs1 : List Loc), t.heap = H1 → B t → (∀ w1, va_P D cl w1 H1 → va_D (va_A wc H.size) w1 → va_P D cl (wr ++ w1) H1 ∧ va_D A (wr ++ w1)) → va_S A H0 H1 locs1 → W p l e R s m args below meth c H1 locs1 (cells + mc) (slots + ms) Q (F0 m (pc + 3) ls rest)) : W p l e R s m args below meth c H locs cells slots Q (F0 m pc ls st) :=
  x_ctorN hx hb hml hown hts hG hini hlk hyd hy hin hP hD hS hA As hMet x_leaf_bl (fun U hU hW => ⟨by rw [hU], by
    rw [hU]
    exact fun k q hk => hP (wr.length + k) q (by rw [List.getElem?_append_right (by omega), Nat.add_sub_cancel_left]; exact hk), va_K.moved hW.alike hK, by
    have h2 := hD.sub ((List.range wc.length).map (· + wr.length)) (xnd_of _ (List.Pairwise.map _ (fun _ _ h e => h (Nat.add_right_cancel e)) List.nodup_range)) (xR_2 wr wc)
    exact h2.weaken (fun _ _ _ _ => trivial)⟩) hR hcells hslots hn hls hst hrm hd kk
end XM
theorem x_at2 {x y z : Nat × va_E} {w t : va_W} : (x :: y :: (w ++ z :: t))[w.length + 2]? = some z := by
  show (w ++ z :: t)[w.length]? = some z
  rw [List.getElem?_append_right (Nat.le_refl _), Nat.sub_self]
  rfl
