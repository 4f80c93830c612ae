/-! part a2: a field is written, in a constructor -/
section XK
variable {p : Program} {l : Launch} {e : Env} {R : Room} {s : State} {m : MethodId} {args : Array Value} {below : List Frame} {meth : Method} {c : Code} {H H0 : Heap} {locs : List Loc} {Q : State → Prop}
variable {cc : ByteArray} {pc : Nat} {ls : Array Slot} {rest : List Value} {D : va_G} {A : Nat → Prop} {tys : List (ClassId × FieldType)} {cells slots : Nat}
theorem x_pf {own : String} (hexec : p.tables.exec = Jvm.exec) (hb : c.code = cc) (hts : ∀ w ∈ xTB, w.before args s = true) (hown : s.vm.findClass own = some m.cls) (hin2 : meth.name = "<init>") (hK : va_K D vwCl tys s) {index ci k : Nat} {C : String} {T : u_T} {N : Nat} (hc : vwCl[ci]? = some (C, T, N)) (hTw : ∀ w ∈ u_ws C T N, w ∈ xTB) (ty0 : Nat → FieldType) (hty : ∀ k, k < N → parseFieldDescriptor (T k).2.2.1 = some (ty0 k)) (hnm : ∀ a, a < N → ∀ b, b < N → a ≠ b → (T a).2.1 ≠ (T b).2.1) (hk : k < N) (hdecl : (T k).1 = own) (hlink : Cond.fieldLink own index (T k).1 (T k).2.1 (T k).2.2.1 ∈ xTB) {ty : FieldType} {v : Value} (hd : parseFieldDescriptor (T k).2.2.1 = some ty) (hn : narrow ty v = v) (hfit : fits ty v = true)
    {ws : va_W} (hP : va_P D vwCl ws H) (hD : va_D A ws) (hS : va_S A H0 H locs) (q0 : Nat) {h0 : Nat} {fs : List Value} (he : ws[q0]? = some (h0, .inr (ci, fs))) (hl : k < fs.length) (hdg : decode cc pc = .ok (.putfield index, 3))
    (kk : ∀ (H1 : Heap) (locs1 : List Loc), va_P D vwCl (ws.set q0 (h0, .inr (ci, fs.set k v))) H1 → va_D A (ws.set q0 (h0, .inr (ci, fs.set k v))) → va_S A H0 H1 locs1 → W p l e R s m args below meth c H1 locs1 cells slots Q (F0 m (pc + 3) ls rest)) : W p l e R s m args below meth c H locs cells slots Q (F0 m pc ls (v :: .ref h0 :: rest)) := by
  by_cases hf : (T k).2.2.2 = true
  · exact va_putF hexec hb hts hTw ty0 hty hnm hown hK hP hD hS q0 he hc k hk (hts _ hlink) (fun _ q => q) hf hin2 hdecl hd hn hfit hl hdg kk
  · exact va_put hexec hb hts hTw ty0 hty hnm hown hK hP hD hS q0 he hc k hk (hts _ hlink) (fun _ q => q) (by rw [← Bool.not_eq_true]; exact hf) hd hn hfit hl hdg kk
end XK
