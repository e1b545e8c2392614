def z0N : Nat → Nat := fun _ => 0
def tlX (D : Nat → Nat) (en : Nat) (f : Nat → Nat) (k : Nat) : Nat → Nat := if frB D en then f else tlB D en f k
theorem tlX_f {D : Nat → Nat} {en : Nat} {f : Nat → Nat} {k b : Nat} (h : frB D en = true) : tlX D en f k b = tlX D en f (k + 1) b := by simp [tlX, h]
theorem tlX_n {D : Nat → Nat} {en : Nat} {f : Nat → Nat} {k b : Nat} (h : frB D en = false) (hn : ¬ D (16 * en + k + 9) % 64 = b) : tlX D en f k b = tlX D en f (k + 1) b := by
  simp only [tlX, h, tlB]
  simp only [Bool.false_eq_true, if_false]
  rw [va_up_ne _ _ (fun e => hn e.symm)]
theorem tlX_y {D : Nat → Nat} {en : Nat} {f : Nat → Nat} {k b : Nat} (h : frB D en = false) (hn : D (16 * en + k + 9) % 64 = b) : tlX D en f k b + 1 = tlX D en f (k + 1) b := by
  simp only [tlX, h, tlB]
  simp only [Bool.false_eq_true, if_false]
  rw [hn, va_up_self]
theorem tlX_e {D : Nat → Nat} {en : Nat} {f : Nat → Nat} {b : Nat} : tlX D en (tlE D f en) 7 b = tlE D f (en + 1) b := by simp only [tlX, tlE]
theorem told_t {D : Nat → Nat} {T : Nat → Bool} {wd : Int32} : nI (cnt (mtB (tlE D z0N 32)) 64) = mTold D T wd 1 := rfl
def bfM (bf : Nat → Nat) (h : Nat) : Nat → Int64
  | 0 => 0
  | n + 1 => bfM bf h n ||| ((nI (bf (8 * h + n))).toInt64 <<< ((nI (8 * n)).toInt64 &&& 63))
