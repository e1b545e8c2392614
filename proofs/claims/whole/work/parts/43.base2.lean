/-- readers that answer nothing, or an object -/
def QcVoid : Array Value → State → Outcome → State → Prop := fun _ st o t => o = .returned none ∧ t.heap = st.heap
def QcRef (b : Nat) : Array Value → State → Outcome → State → Prop := fun _ st o t => o = .returned (some (.ref b)) ∧ t.heap = st.heap
def QcLong (b : Int64) : Array Value → State → Outcome → State → Prop := fun _ st o t => o = .returned (some (.long b)) ∧ t.heap = st.heap
section BASE2
variable {p : Program} {l : Launch} {e : Env} {R : Room} {s : State} {m : MethodId} {args : Array Value} {below : List Frame} {meth : Method} {c : Code} {H : Heap} {locs : List Loc} {cells slots : Nat} {Q : State → Prop}
variable {cc : ByteArray} {pc : Nat} {ls : Array Slot} {rest : List Value}
theorem cr_v {st0 : List Value} {a : Array Value} (hr : va_Run p l e R s m args below meth c H locs cells slots 0 0 (F0 m pc ls st0) rest (QcVoid a) (fun _ => False)) (k : W p l e R s m args below meth c H locs cells slots Q (F0 m (pc + 3) ls rest)) : W p l e R s m args below meth c H locs cells slots Q (F0 m pc ls st0) := by
  intro T hT X
  obtain ⟨v, st₀, t, T', L, h0, X', hL, e1, -, ⟨hv, hh⟩, st⟩ := hr T hT X
  cases hv
  obtain ⟨t2, a1, b1⟩ := k T' (by rw [e1, hh, h0]) (Stand.forget X' (fun q h => (hL q h).elim))
  exact ⟨t2, st t2 a1, b1⟩
theorem cr_r {st0 : List Value} {a : Array Value} {b : Nat} (hr : va_Run p l e R s m args below meth c H locs cells slots 0 0 (F0 m pc ls st0) rest (QcRef b a) (fun _ => False)) (k : W p l e R s m args below meth c H locs cells slots Q (F0 m (pc + 3) ls (.ref b :: rest))) : W p l e R s m args below meth c H locs cells slots Q (F0 m pc ls st0) := by
  intro T hT X
  obtain ⟨v, st₀, t, T', L, h0, X', hL, e1, -, ⟨hv, hh⟩, st⟩ := hr T hT X
  cases hv
  obtain ⟨t2, a1, b1⟩ := k T' (by rw [e1, hh, h0]) (Stand.forget X' (fun q h => (hL q h).elim))
  exact ⟨t2, st t2 a1, b1⟩
theorem cr_l {st0 : List Value} {a : Array Value} {b : Int64} (hr : va_Run p l e R s m args below meth c H locs cells slots 0 0 (F0 m pc ls st0) rest (QcLong b a) (fun _ => False)) (k : W p l e R s m args below meth c H locs cells slots Q (F0 m (pc + 3) ls (.long b :: rest))) : W p l e R s m args below meth c H locs cells slots Q (F0 m pc ls st0) := by
  intro T hT X
  obtain ⟨v, st₀, t, T', L, h0, X', hL, e1, -, ⟨hv, hh⟩, st⟩ := hr T hT X
  cases hv
  obtain ⟨t2, a1, b1⟩ := k T' (by rw [e1, hh, h0]) (Stand.forget X' (fun q h => (hL q h).elim))
  exact ⟨t2, st t2 a1, b1⟩
end BASE2
/-! what the public calls do -/
def mOpen (D : Nat → Nat) (U : Nat) (w : Nat → Nat) (ro : Bool) (bl : Nat → Nat) (st ct pl : Nat) : Int32 × Bool × Bool × (Nat → Nat) × Nat × Nat × Nat :=
  if fnd (fsB D U w 0) 32 0 = -1 then (-1, false, ro, bl, st, ct, pl)
  else (fnd (fsB D U w 0) 32 0, true, roB D (fnd (fsB D U w 0) 32 0).toNatClampNeg, va_cpy D bl (16 * (fnd (fsB D U w 0) 32 0).toNatClampNeg + 9) 0 7, D (16 * (fnd (fsB D U w 0) 32 0).toNatClampNeg + 7), D (16 * (fnd (fsB D U w 0) 32 0).toNatClampNeg + 8), 0)
theorem open_no {D : Nat → Nat} {U : Nat} {w : Nat → Nat} {ro : Bool} {bl : Nat → Nat} {st ct pl : Nat} (h : fnd (fsB D U w 0) 32 0 = -1) : (-1, false, ro, bl, st, ct, pl) = mOpen D U w ro bl st ct pl := by simp [mOpen, h]
theorem open_yes {D : Nat → Nat} {U : Nat} {w : Nat → Nat} {ro : Bool} {bl : Nat → Nat} {st ct pl j : Nat} (hj : j < 32) (h : fnd (fsB D U w 0) 32 0 = nI j) : (nI j, true, roB D j, va_cpy D bl (16 * j + 9) 0 7, D (16 * j + 7), D (16 * j + 8), 0) = mOpen D U w ro bl st ct pl := by
  have h1 : ¬ nI j = -1 := nI_neg1 (by omega) (by decide)
  simp [mOpen, h, h1, nI_clamp (show j < 2 ^ 31 by omega)]
def mMake (le op ro : Bool) (D : Nat → Nat) (wl : Nat) (wd : Int32) (U : Nat) (w bl : Nat → Nat) (st ct pl : Nat) : Int32 × Bool × Bool × (Nat → Nat) × Nat × Int32 × (Nat → Nat) × Nat × Nat × Nat :=
  ((mNew le D wl wd U w bl st ct pl 0).1, if (mNew le D wl wd U w bl st ct pl 0).1 = -2 then op else true, if (mNew le D wl wd U w bl st ct pl 0).1 = -2 then ro else false, (mNew le D wl wd U w bl st ct pl 0).2)
theorem make_no {le op ro : Bool} {D : Nat → Nat} {wl : Nat} {wd : Int32} {U : Nat} {w bl : Nat → Nat} {st ct pl : Nat} {r : Int32} {y : (Nat → Nat) × Nat × Int32 × (Nat → Nat) × Nat × Nat × Nat} (h : (r, y) = mNew le D wl wd U w bl st ct pl 0) (hr : r = -2) : (r, op, ro, y) = mMake le op ro D wl wd U w bl st ct pl := by
  simp only [mMake]; rw [← h]; simp [hr]
theorem make_yes {le op ro : Bool} {D : Nat → Nat} {wl : Nat} {wd : Int32} {U : Nat} {w bl : Nat → Nat} {st ct pl : Nat} {r : Int32} {y : (Nat → Nat) × Nat × Int32 × (Nat → Nat) × Nat × Nat × Nat} (h : (r, y) = mNew le D wl wd U w bl st ct pl 0) (hr : ¬ r = -2) : (r, true, false, y) = mMake le op ro D wl wd U w bl st ct pl := by
  simp only [mMake]; rw [← h]; simp [hr]
def mCls (le op : Bool) (D : Nat → Nat) (wl : Nat) (wd : Int32) (U : Nat) (w bl : Nat → Nat) (st ct : Nat) : Int32 × (Nat → Nat) × Nat × Int32 := if op then mKeep le D wl wd U w bl st ct else (-1, D, wl, wd)
/-- erase, from entry e on, n to look at, c erased -/
def mEr (le : Bool) (U : Nat) (w : Nat → Nat) : Nat → Nat → Nat → (Nat → Nat) → (Nat → Bool) → Nat → Int32 → Int32 × (Nat → Nat) × (Nat → Bool) × Nat × Int32
  | 0, _, c, D, T, wl, wd => (hmI c, D, T, wl, wd)
  | n + 1, e, c, D, T, wl, wd => if ftB D U w e then (if okW le wl then mEr le U w n (e + 1) (c + 1) (efD D e) (gbB D e T 7) (wlW le wl) (wdW le wl wd) else (-9, D, gbB D e T 7, wlW le wl, wdW le wl wd)) else mEr le U w n (e + 1) c D T wl wd
def mErase (le : Bool) (D : Nat → Nat) (T : Nat → Bool) (wl : Nat) (wd : Int32) (U : Nat) (w : Nat → Nat) : Int32 × (Nat → Nat) × (Nat → Bool) × Nat × Int32 :=
  if anyB (hrB D U w) 32 then (-3, D, T, wl, wd) else mEr le U w 32 0 0 D T wl wd
theorem mEr_at {le : Bool} {U : Nat} {w : Nat → Nat} {k c : Nat} {D : Nat → Nat} {T : Nat → Bool} {wl : Nat} {wd : Int32} (hk : k < 32) : mEr le U w (32 - k) k c D T wl wd = if ftB D U w k then (if okW le wl then mEr le U w (32 - (k + 1)) (k + 1) (c + 1) (efD D k) (gbB D k T 7) (wlW le wl) (wdW le wl wd) else (-9, D, gbB D k T 7, wlW le wl, wdW le wl wd)) else mEr le U w (32 - (k + 1)) (k + 1) c D T wl wd := by
  rw [show 32 - k = (32 - (k + 1)) + 1 by omega]; rfl
def mRn (le : Bool) (U : Nat) (w v : Nat → Nat) : Nat → Nat → Nat → (Nat → Nat) → Nat → Int32 → Int32 × (Nat → Nat) × Nat × Int32
  | 0, _, c, D, wl, wd => (hmI c, D, wl, wd)
  | n + 1, e, c, D, wl, wd => if ftB D U w e then (if okW le wl then mRn le U w v n (e + 1) (c + 1) (nmD D e v) (wlW le wl) (wdW le wl wd) else (-9, D, wlW le wl, wdW le wl wd)) else mRn le U w v n (e + 1) c D wl wd
def mRename (le : Bool) (D : Nat → Nat) (wl : Nat) (wd : Int32) (U : Nat) (w v : Nat → Nat) : Int32 × (Nat → Nat) × Nat × Int32 :=
  if anyB (hrB D U w) 32 then (-3, D, wl, wd) else mRn le U w v 32 0 0 D wl wd
theorem mRn_at {le : Bool} {U : Nat} {w v : Nat → Nat} {k c : Nat} {D : Nat → Nat} {wl : Nat} {wd : Int32} (hk : k < 32) : mRn le U w v (32 - k) k c D wl wd = if ftB D U w k then (if okW le wl then mRn le U w v (32 - (k + 1)) (k + 1) (c + 1) (nmD D k v) (wlW le wl) (wdW le wl wd) else (-9, D, wlW le wl, wdW le wl wd)) else mRn le U w v (32 - (k + 1)) (k + 1) c D wl wd := by
  rw [show 32 - k = (32 - (k + 1)) + 1 by omega]; rfl
def mGd (le : Bool) (U : Nat) (w : Nat → Nat) (gd : Bool) : Nat → Nat → Nat → (Nat → Nat) → Nat → Int32 → Int32 × (Nat → Nat) × Nat × Int32
  | 0, _, c, D, wl, wd => (hmI c, D, wl, wd)
  | n + 1, e, c, D, wl, wd => if ftB D U w e then (if okW le wl then mGd le U w gd n (e + 1) (c + 1) (gdD D e gd) (wlW le wl) (wdW le wl wd) else (-9, D, wlW le wl, wdW le wl wd)) else mGd le U w gd n (e + 1) c D wl wd
theorem mGd_at {le : Bool} {U : Nat} {w : Nat → Nat} {gd : Bool} {k c : Nat} {D : Nat → Nat} {wl : Nat} {wd : Int32} (hk : k < 32) : mGd le U w gd (32 - k) k c D wl wd = if ftB D U w k then (if okW le wl then mGd le U w gd (32 - (k + 1)) (k + 1) (c + 1) (gdD D k gd) (wlW le wl) (wdW le wl wd) else (-9, D, wlW le wl, wdW le wl wd)) else mGd le U w gd (32 - (k + 1)) (k + 1) c D wl wd := by
  rw [show 32 - k = (32 - (k + 1)) + 1 by omega]; rfl
theorem pwr_t {le : Bool} {D : Nat → Nat} {wl : Nat} {wd : Int32} {D1 D2 : Nat → Nat} {b : Bool} {wl1 : Nat} {wd1 : Int32} (hw : (b, D2, wl1, wd1) = pwr le D wl wd D1) (hb : b = true) : okW le wl = true ∧ D2 = D1 ∧ wl1 = wlW le wl ∧ wd1 = wdW le wl wd := by
  simp only [pwr, Prod.mk.injEq] at hw
  obtain ⟨h1, h2, h3, h4⟩ := hw
  rw [hb] at h1
  rw [← h1] at h2
  exact ⟨h1.symm, h2, h3, h4⟩
theorem pwr_f {le : Bool} {D : Nat → Nat} {wl : Nat} {wd : Int32} {D1 D2 : Nat → Nat} {b : Bool} {wl1 : Nat} {wd1 : Int32} (hw : (b, D2, wl1, wd1) = pwr le D wl wd D1) (hb : b = false) : okW le wl = false ∧ D2 = D ∧ wl1 = wlW le wl ∧ wd1 = wdW le wl wd := by
  simp only [pwr, Prod.mk.injEq] at hw
  obtain ⟨h1, h2, h3, h4⟩ := hw
  rw [hb] at h1
  rw [← h1] at h2
  exact ⟨h1.symm, h2, h3, h4⟩
