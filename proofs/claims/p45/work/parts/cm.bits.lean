/-! part cm: the count of bits of a set of at most four cells -/
def bcK : Nat → Nat → Nat → Bool
  | 0, acc, t => Nat.beq (pq16 acc % 128) t
  | i + 1, acc, t => bcK i acc t && (if Nat.blt t 4 then bcK i (acc + 2 ^ i) (t + 1) else true)
theorem bcK_t : bcK 30 0 0 = true := by decide +kernel
