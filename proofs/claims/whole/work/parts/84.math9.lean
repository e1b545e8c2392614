theorem sh_amt (a : Int64) (n : Nat) (hn : n ≤ 7) : (a <<< ((nI (8 * n)).toInt64 &&& 63)).toBitVec = a.toBitVec <<< (8 * n) := by
  have h : ((nI (8 * n)).toInt64 &&& 63).toBitVec.smod 64 = BitVec.ofNat 64 (8 * n) := by
    rcases (show n = 0 ∨ n = 1 ∨ n = 2 ∨ n = 3 ∨ n = 4 ∨ n = 5 ∨ n = 6 ∨ n = 7 by omega) with rfl | rfl | rfl | rfl | rfl | rfl | rfl | rfl <;> decide +kernel
  rw [Int64.toBitVec_shiftLeft, h, BitVec.shiftLeft_eq', BitVec.toNat_ofNat, Nat.mod_eq_of_lt (by omega)]
theorem bf_same (bf : Nat → Nat) (hh : Nat) : bfR bf hh 8 = bfM bf hh 8 := by
  apply Int64.toBitVec_inj.mp
  have e : ∀ a : Int64, (a <<< ((nI 8).toInt64 &&& 63)).toBitVec = a.toBitVec <<< 8 := fun a => sh_amt a 1 (by omega)
  simp only [bfR, bfM, Int64.toBitVec_or, e]
  rw [sh_amt _ 0 (by omega), sh_amt _ 2 (by omega), sh_amt _ 3 (by omega), sh_amt _ 4 (by omega), sh_amt _ 5 (by omega), sh_amt _ 6 (by omega), sh_amt _ 7 (by omega)]
  simp only [BitVec.shiftLeft_or_distrib, ← BitVec.shiftLeft_add, Nat.reduceAdd, Nat.reduceMul, Nat.reduceSub, Nat.add_zero]
  rw [show (0 : Int64).toBitVec = 0#64 from rfl]
  simp only [BitVec.zero_shiftLeft, BitVec.zero_or, BitVec.shiftLeft_zero]
  generalize (nI (bf (8 * hh + 7))).toInt64.toBitVec = v7
  generalize (nI (bf (8 * hh + 6))).toInt64.toBitVec = v6
  generalize (nI (bf (8 * hh + 5))).toInt64.toBitVec = v5
  generalize (nI (bf (8 * hh + 4))).toInt64.toBitVec = v4
  generalize (nI (bf (8 * hh + 3))).toInt64.toBitVec = v3
  generalize (nI (bf (8 * hh + 2))).toInt64.toBitVec = v2
  generalize (nI (bf (8 * hh + 1))).toInt64.toBitVec = v1
  generalize (nI (bf (8 * hh))).toInt64.toBitVec = v0
  generalize v7 <<< 56 = a7
  generalize v6 <<< 48 = a6
  generalize v5 <<< 40 = a5
  generalize v4 <<< 32 = a4
  generalize v3 <<< 24 = a3
  generalize v2 <<< 16 = a2
  generalize v1 <<< 8 = a1
  have h : ∀ x0 x1 x2 x3 x4 x5 x6 x7 : BitVec 64, x7 ||| x6 ||| x5 ||| x4 ||| x3 ||| x2 ||| x1 ||| x0 = x0 ||| x1 ||| x2 ||| x3 ||| x4 ||| x5 ||| x6 ||| x7 := by
    intro x0 x1 x2 x3 x4 x5 x6 x7
    ac_rfl
  exact h v0 a1 a2 a3 a4 a5 a6 a7
