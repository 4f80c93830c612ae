/-! part 53: what a law is, what it gives; bits -/
theorem kn_bv (n : Nat) : (ki (n : Int)).toBitVec = BitVec.ofNat 32 n := by
  show BitVec.ofInt 32 (n : Int) = _
  exact BitVec.ofInt_natCast ..
theorem k_toI (v : Int) (h1 : -2147483648 ≤ v) (h2 : v < 2147483648) : (ki v).toBitVec.toInt = v := ki_ti h1 h2
theorem sh_n : ∀ k : Nat, k < 32 → ((ki (k : Int) &&& ki 31).toBitVec.smod 32).toNat = k := by decide
theorem ki_sr {v : Int} {k : Nat} (hk : k < 32) (h1 : -2147483648 ≤ v) (h2 : v < 2147483648) : ki v >>> (ki (k : Int) &&& ki 31) = ki (v / ((2 ^ k : Nat) : Int)) := by
  have e : (ki v >>> (ki (k : Int) &&& ki 31)).toInt = v / ((2 ^ k : Nat) : Int) := by
    show (BitVec.sshiftRight' (ki v).toBitVec ((ki (k : Int) &&& ki 31).toBitVec.smod 32)).toInt = _
    rw [BitVec.toInt_sshiftRight', sh_n k hk, k_toI v h1 h2, Int.shiftRight_eq_div_pow]
  rw [← e, ki_self]
theorem ki_sr6 {v : Int} (h1 : -2147483648 ≤ v) (h2 : v < 2147483648) : ki v >>> (ki 6 &&& ki 31) = ki (v / 64) := ki_sr (k := 6) (by omega) h1 h2
theorem ki_bv {v : Int} (h1 : 0 ≤ v) : (ki v).toBitVec = BitVec.ofNat 32 v.toNat := by
  have e : v = (v.toNat : Int) := by omega
  rw [e, kn_bv, Int.toNat_natCast]
theorem ki_and {v : Int} {k : Nat} (hk : k < 31) (h1 : 0 ≤ v) (h2 : v < 2147483648) : ki v &&& ki ((2 ^ k - 1 : Nat) : Int) = ki (v % ((2 ^ k : Nat) : Int)) := by
  have hp : 2 ^ k ≤ 2 ^ 31 := Nat.pow_le_pow_right (by omega) (by omega)
  have h0 : 0 < 2 ^ k := Nat.pow_pos (by omega)
  have q0 : 0 ≤ v % ((2 ^ k : Nat) : Int) := Int.emod_nonneg _ (by omega)
  have q1 : v % ((2 ^ k : Nat) : Int) < ((2 ^ k : Nat) : Int) := Int.emod_lt_of_pos _ (by omega)
  apply Int32.toBitVec.inj
  show (ki v).toBitVec &&& (ki _).toBitVec = _
  rw [ki_bv h1, kn_bv, ki_bv q0]
  apply BitVec.eq_of_toNat_eq
  rw [BitVec.toNat_and, BitVec.toNat_ofNat, BitVec.toNat_ofNat, BitVec.toNat_ofNat, Nat.mod_eq_of_lt (a := v.toNat) (by omega), Nat.mod_eq_of_lt (a := 2 ^ k - 1) (by omega), Nat.and_two_pow_sub_one_eq_mod, Nat.mod_eq_of_lt (a := (v % ((2 ^ k : Nat) : Int)).toNat) (by omega)]
  have e : v = (v.toNat : Int) := by omega
  generalize v.toNat = w at *
  subst e
  rw [← Int.natCast_emod, Int.toNat_natCast]
theorem ki_and63 {v : Int} (h1 : 0 ≤ v) (h2 : v < 2147483648) : ki v &&& ki 63 = ki (v % 64) := ki_and (k := 6) (by omega) h1 h2
theorem ki_and7 {v : Int} (h1 : 0 ≤ v) (h2 : v < 2147483648) : ki v &&& ki 7 = ki (v % 8) := ki_and (k := 3) (by omega) h1 h2
theorem ki_pk {q g : Int} (q1 : 0 ≤ q) (q2 : q < 33554432) (g1 : 0 ≤ g) (g2 : g < 64) : ki q <<< (ki 6 &&& ki 31) ||| ki g = ki (q * 64 + g) := by
  apply Int32.toBitVec.inj
  show ((ki q).toBitVec <<< ((ki 6 &&& ki 31).toBitVec.smod 32)) ||| (ki g).toBitVec = _
  rw [ki_bv q1, ki_bv g1, ki_bv (by omega)]
  apply BitVec.eq_of_toNat_eq
  have e6 : (ki 6 &&& ki 31).toBitVec.smod 32 = BitVec.ofNat 32 6 := by decide
  rw [e6, BitVec.toNat_or, BitVec.shiftLeft_eq', BitVec.toNat_shiftLeft, BitVec.toNat_ofNat, BitVec.toNat_ofNat, BitVec.toNat_ofNat, BitVec.toNat_ofNat, Nat.mod_eq_of_lt (a := q.toNat) (by omega), Nat.mod_eq_of_lt (a := g.toNat) (by omega), Nat.mod_eq_of_lt (a := (q * 64 + g).toNat) (by omega)]
  show q.toNat <<< 6 % 2 ^ 32 ||| g.toNat = _
  rw [Nat.shiftLeft_eq, Nat.mod_eq_of_lt (by omega), ← Nat.shiftLeft_eq, ← Nat.shiftLeft_add_eq_or_of_lt (show g.toNat < 2 ^ 6 by omega), Nat.shiftLeft_eq]
  omega
def us (k : Nat) (x : Int32) : Int := ((x.toUInt32.toNat / 2 ^ k : Nat) : Int)
theorem us_e {k : Nat} (hk : k < 32) (hu : ((ki (k : Int)).toUInt32 &&& Int32.toUInt32 (ki 31)).toNat = k) (x : Int32) : (x.toUInt32 >>> ((ki (k : Int)).toUInt32 &&& Int32.toUInt32 (ki 31))).toInt32 = ki (us k x) := by
  generalize hw : x.toUInt32 >>> ((ki (k : Int)).toUInt32 &&& Int32.toUInt32 (ki 31)) = u
  have e : u.toNat = x.toUInt32.toNat / 2 ^ k := by
    rw [← hw, UInt32.toNat_shiftRight, hu, Nat.mod_eq_of_lt hk, Nat.shiftRight_eq_div_pow]
  unfold us
  rw [← e]
  show _ = Int32.ofInt (u.toNat : Int)
  rw [Int32.ofInt_eq_ofNat, ← UInt32.toInt32_ofNat', UInt32.ofNat_toNat]
theorem us21 (x : Int32) : (x.toUInt32 >>> ((ki 21).toUInt32 &&& Int32.toUInt32 (ki 31))).toInt32 = ki (us 21 x) := us_e (k := 21) (by omega) (by decide) x
theorem us21_b (x : Int32) : 0 ≤ us 21 x ∧ us 21 x < 2048 := by
  have h : x.toUInt32.toNat < 2 ^ 32 := x.toUInt32.toNat_lt
  unfold us
  constructor
  · omega
  · have : x.toUInt32.toNat / 2 ^ 21 < 2048 := by omega
    omega
/-! what two numbers give by a sign; a pile -/
def opv (c : Int) (a b : Int32) : Int32 :=
  if c = 37 then (if b = ki 0 then ki 0 else a - a / b * b) else if c = 38 then (if a = ki 0 then ki 0 else if b = ki 0 then ki 0 else ki 1) else if c = 42 then a * b else if c = 43 then a + b
  else if c = 45 then a - b else if c = 47 then (if b = ki 0 then ki 0 else a / b) else if c = 60 then (if b ≤ a then ki 0 else ki 1) else if c = 61 then (if a = b then ki 1 else ki 0) else if c = 62 then (if a ≤ b then ki 0 else ki 1)
  else (if a = ki 0 then (if b = ki 0 then ki 0 else ki 1) else ki 1)
abbrev isop (c : Int) : Prop := c = 37 ∨ c = 38 ∨ c = 42 ∨ c = 43 ∨ c = 45 ∨ c = 47 ∨ c = 60 ∨ c = 61 ∨ c = 62 ∨ c = 124
def u2 (p : Int → Int32) (i : Int) (v : Int32) : Int → Int32 := fun z => if z = i then v else p z
def rs (cd ag fa : Int → Int) : Nat → Int → Int → (Int → Int32) → Int32
  | 0, _, _, p => p 0
  | k + 1, i, n, p =>
    if cd i = 35 then rs cd ag fa k (i + 1) (n + 1) (u2 p n (ki (ag i)))
    else if cd i = 64 then rs cd ag fa k (i + 1) (n + 1) (u2 p n (ki (fa (ag i))))
    else if cd i = 33 then rs cd ag fa k (i + 1) n (u2 p (n - 1) (if p (n - 1) = ki 0 then ki 1 else ki 0))
    else if cd i = 126 then rs cd ag fa k (i + 1) n (u2 p (n - 1) (-p (n - 1)))
    else rs cd ag fa k (i + 1) (n - 1) (u2 p (n - 2) (opv (cd i) (p (n - 2)) (p (n - 1))))
def sg (cd ag : Int → Int) : Nat → Int → Int → Int → Prop
  | 0, _, n, m => n = m
  | k + 1, i, n, m => (cd i = 35 ∧ 0 ≤ n ∧ n < 60 ∧ -2147483648 ≤ ag i ∧ ag i < 2147483648 ∧ sg cd ag k (i + 1) (n + 1) m) ∨ (cd i = 64 ∧ 0 ≤ ag i ∧ ag i < 6 ∧ 0 ≤ n ∧ n < 60 ∧ sg cd ag k (i + 1) (n + 1) m) ∨ ((cd i = 33 ∨ cd i = 126) ∧ 1 ≤ n ∧ n ≤ 60 ∧ sg cd ag k (i + 1) n m) ∨ (isop (cd i) ∧ 2 ≤ n ∧ n ≤ 60 ∧ sg cd ag k (i + 1) (n - 1) m)
def rv (cd ag fa : Int → Int) (i j : Int) : Int32 := rs cd ag fa (j - i).toNat i 0 (fun _ => 0)
def lvn (cd ag gE lE fa : Int → Int) : Nat → Int → Int → Int32
  | 0, _, _ => ki 0
  | k + 1, l, i => if gE l = i then rv cd ag fa i (lE l) else if rv cd ag fa i (gE l) = ki 0 then lvn cd ag gE lE fa k (l + 1) (lE l) else rv cd ag fa (gE l) (lE l)
/-- lines that are whole: k of them from line l, place i on -/
def lwn (cd ag gE lE : Int → Int) : Nat → Int → Int → Prop
  | 0, _, _ => True
  | k + 1, l, i => i ≤ gE l ∧ gE l ≤ lE l ∧ lE l ≤ 120 ∧ (gE l = i ∨ sg cd ag (gE l - i).toNat i 0 1) ∧ sg cd ag (lE l - gE l).toNat (gE l) 0 1 ∧ lwn cd ag gE lE k (l + 1) (lE l)
def hl (v : Int) : Int := if v < -20 then -20 else if 20 < v then 20 else v
def fc (d h a s n l : Int) : Int → Int := fun i => if i = 0 then d else if i = 1 then h else if i = 2 then a else if i = 3 then s else if i = 4 then n else l
def gn0 (f : Int → Int) : Int := hl (2 * f 0 - f 2 - 4 * f 3 + (f 4 - f 1).tdiv 4)
def gnL (N : Nat) (cd ag gE lE : Int → Int) (f : Int → Int) : Int := hl (lvn cd ag gE lE f N 0 0).toInt
def qst (d h a s n l : Int) : Int := 1 + (((((d * 100 + h) * 100 + n) * 6 + a) * 2 + s) * 5) + l
abbrev fok (d h a s n l : Int) : Prop := 0 ≤ d ∧ d ≤ 9 ∧ 0 ≤ h ∧ h ≤ 99 ∧ 0 ≤ a ∧ a ≤ 5 ∧ 0 ≤ s ∧ s ≤ 1 ∧ 0 ≤ n ∧ n ≤ 99 ∧ 0 ≤ l ∧ l ≤ 4
def kno (gn : (Int → Int) → Int) (S : xSt) : Prop := ∀ z : Int, 0 ≤ z → z < 2048 → ∃ q g : Int, S.1 15 z.toNat = ki (q * 64 + g) ∧ 0 ≤ q ∧ q < 33554432 ∧ 0 ≤ g ∧ g < 64 ∧ (q = 0 ∨ ∃ d h a s n l : Int, fok d h a s n l ∧ q = qst d h a s n l ∧ g = gn (fc d h a s n l) + 20)
def lawX (gn : (Int → Int) → Int) (S : xSt) : Prop := (S.1 8 0 = ki 0 ∧ gn = gn0) ∨ ∃ (N : Nat) (cd ag gE lE : Int → Int), 1 ≤ N ∧ N ≤ 61 ∧ S.1 8 0 = ki (N : Int) ∧ vw S 9 120 cd ∧ vw S 10 120 ag ∧ vw S 11 120 gE ∧ vw S 12 120 lE ∧ lwn cd ag gE lE N 0 0 ∧ gn = gnL N cd ag gE lE ∧ kno gn S
def mc (c : Int) : Int := if c = 35 then 1 else if c = 64 then 2 else if c = 33 then 3 else if c = 126 then 4 else if c = 1 then 35 else if c = 2 then 64 else if c = 3 then 33 else if c = 4 then 126 else c
def lawM (gn : (Int → Int) → Int) (S : xSt) : Prop := (S.1 0 29 = ki 0 ∧ gn = gn0) ∨ ∃ (N : Nat) (cd ag gE lE : Int → Int), 1 ≤ N ∧ N ≤ 61 ∧ S.1 0 29 = ki 1 ∧ S.1 17 (0 : Int).toNat = ki (N : Int) ∧ vw S 15 120 (fun z => mc (cd z)) ∧ vw S 16 120 ag ∧ vw S 18 61 gE ∧ vw S 19 61 lE ∧ lwn cd ag gE lE N 0 0 ∧ gn = gnL N cd ag gE lE
theorem hl_b (v : Int) : -20 ≤ hl v ∧ hl v ≤ 20 := by unfold hl; omega
theorem gn_b {gn : (Int → Int) → Int} {S : xSt} (h : lawX gn S) (f : Int → Int) : -20 ≤ gn f ∧ gn f ≤ 20 := by
  rcases h with ⟨_, e⟩ | ⟨N, cd, ag, gE, lE, _, _, _, _, _, _, _, _, e, _⟩
  · rw [e]; exact hl_b _
  · rw [e]; exact hl_b _
def fcS (η : Hy) (c : Int) : Int → Int := fc (η 3 c) (η 4 c) (airS η c) (η 6 c) (meanS η c) (c % 5)
