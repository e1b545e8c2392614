/-! the functions case by case -/
section CASES
variable {le op ro : Bool} {D : Nat → Nat} {T : Nat → Bool} {wl : Nat} {wd : Int32} {U : Nat} {w bl bf dr : Nat → Nat} {st ct pl sn p j : Nat} {puts b : Bool} {D1 : Nat → Nat} {wl1 : Nat} {wd1 : Int32}
theorem keep_no (h : fnd (fsB D U w st) 32 0 = -1) : (-1, D, wl, wd) = mKeep le D wl wd U w bl st ct := by simp [mKeep, h]
theorem keep_yes (hj : j < 32) (h : fnd (fsB D U w st) 32 0 = nI j) : mKeep le D wl wd U w bl st ct = (if okW le wl then nI j else -9, (pwr le D wl wd (kpD D j bl ct)).2) := by
  have h1 : ¬ nI j = -1 := nI_neg1 (by omega) (by decide)
  simp [mKeep, h, h1, nI_clamp (show j < 2 ^ 31 by omega)]
theorem keep_t (hw : (b, D1, wl1, wd1) = mPut le wl wd D j (pdR bl ct (gtR D j dr))) (hj : j < 32) (h : fnd (fsB D U w st) 32 0 = nI j) (hb : b = true) : (nI j, D1, wl1, wd1) = mKeep le D wl wd U w bl st ct := by
  rw [mPut_pwr, kp_dr] at hw
  rw [keep_yes hj h, ← hw]
  have e : b = okW le wl := congrArg Prod.fst hw
  rw [← e, hb]; rfl
theorem keep_f (hw : (b, D1, wl1, wd1) = mPut le wl wd D j (pdR bl ct (gtR D j dr))) (hj : j < 32) (h : fnd (fsB D U w st) 32 0 = nI j) (hb : b = false) : (-9, D1, wl1, wd1) = mKeep le D wl wd U w bl st ct := by
  rw [mPut_pwr, kp_dr] at hw
  rw [keep_yes hj h, ← hw]
  have e : b = okW le wl := congrArg Prod.fst hw
  rw [← e, hb]; rfl
theorem new_no (h : fnd (frB D) 32 0 = -1) : (-2, D, wl, wd, bl, st, ct, pl) = mNew le D wl wd U w bl st ct pl sn := by simp [mNew, h]
theorem new_yes (hj : j < 32) (h : fnd (frB D) 32 0 = nI j) : mNew le D wl wd U w bl st ct pl sn = (if okW le wl then nI j else -9, (pwr le D wl wd (nwD D j U w sn)).2.1, wlW le wl, wdW le wl wd, zbN bl, sn, 0, 0) := by
  have h1 : ¬ nI j = -1 := nI_neg1 (by omega) (by decide)
  simp [mNew, h, h1, nI_clamp (show j < 2 ^ 31 by omega)]
theorem new_t (hw : (b, D1, wl1, wd1) = mPut le wl wd D j (pdR (zbN bl) 0 (meR U w sn dr))) (hj : j < 32) (h : fnd (frB D) 32 0 = nI j) (hb : b = true) : (nI j, D1, wl1, wd1, zbN bl, sn, 0, 0) = mNew le D wl wd U w bl st ct pl sn := by
  rw [mPut_pwr, nw_dr] at hw
  rw [new_yes hj h, ← hw]
  simp only [pwr, Prod.mk.injEq] at hw
  rw [← hw.1, hb, hw.2.2.1, hw.2.2.2]; rfl
theorem new_f (hw : (b, D1, wl1, wd1) = mPut le wl wd D j (pdR (zbN bl) 0 (meR U w sn dr))) (hj : j < 32) (h : fnd (frB D) 32 0 = nI j) (hb : b = false) : (-9, D1, wl1, wd1, zbN bl, sn, 0, 0) = mNew le D wl wd U w bl st ct pl sn := by
  rw [mPut_pwr, nw_dr] at hw
  rw [new_yes hj h, ← hw]
  simp only [pwr, Prod.mk.injEq] at hw
  rw [← hw.1, hb, hw.2.2.1, hw.2.2.2]; rfl
theorem zI_n (h : j < 2 ^ 31) : zI (nI j) = 0 := by simp only [zI]; rw [if_neg (nI_pos h)]
def mNwZ (le : Bool) (D : Nat → Nat) (wl : Nat) (wd : Int32) (U : Nat) (w bl : Nat → Nat) (st ct pl sn : Nat) : Int32 × (Nat → Nat) × Nat × Int32 × (Nat → Nat) × Nat × Nat × Nat := (zI (mNew le D wl wd U w bl st ct pl sn).1, (mNew le D wl wd U w bl st ct pl sn).2)
theorem nwz {r : Int32} {y : (Nat → Nat) × Nat × Int32 × (Nat → Nat) × Nat × Nat × Nat} {q : Int32} (h : (r, y) = mNew le D wl wd U w bl st ct pl sn) (hz : zI r = q) : (q, y) = mNwZ le D wl wd U w bl st ct pl sn := by
  rw [mNwZ, ← h, ← hz]
variable {k : Int32}
theorem go_1 (h : 16 ≤ sn) : (-2, D, wl, wd, bl, st, ct, pl) = mGo le D wl wd U w bl st ct pl sn puts := by simp only [mGo]; rw [if_pos h]
theorem go_2 (h : sn < 16) (h2 : sn = st) : (0, D, wl, wd, bl, st, ct, pl) = mGo le D wl wd U w bl st ct pl sn puts := by simp only [mGo]; rw [if_neg (by omega), if_pos h2]
theorem go_3 (h : sn < 16) (h2 : ¬ sn = st) (hw : (k, D1, wl1, wd1) = mKeep le D wl wd U w bl st ct) (hk : ¬ 0 ≤ k) : (k, D1, wl1, wd1, bl, st, ct, pl) = mGo le D wl wd U w bl st ct pl sn puts := by
  simp only [mGo]; rw [if_neg (by omega), if_neg h2, ← hw]; dsimp only; rw [if_pos (Int32.not_le.mp hk)]
theorem go_4 (h : sn < 16) (h2 : ¬ sn = st) (hw : (k, D1, wl1, wd1) = mKeep le D wl wd U w bl st ct) (hk : 0 ≤ k) (hj : j < 32) (ef : fnd (fsB D1 U w sn) 32 0 = nI j) : (0, D1, wl1, wd1, va_cpy D1 bl (16 * j + 9) 0 7, D1 (16 * j + 7), D1 (16 * j + 8), 0) = mGo le D wl wd U w bl st ct pl sn puts := by
  have h1 : ¬ nI j = -1 := nI_neg1 (by omega) (by decide)
  simp only [mGo]; rw [if_neg (by omega), if_neg h2, ← hw]; dsimp only; rw [if_neg (Int32.not_lt.mpr hk), ef, if_neg h1, nI_clamp (by omega)]
theorem go_5 (h : sn < 16) (h2 : ¬ sn = st) (hw : (k, D1, wl1, wd1) = mKeep le D wl wd U w bl st ct) (hk : 0 ≤ k) (ef : fnd (fsB D1 U w sn) 32 0 = -1) (hp : puts = false) : (-1, D1, wl1, wd1, bl, st, ct, pl) = mGo le D wl wd U w bl st ct pl sn puts := by
  subst hp
  simp only [mGo]; rw [if_neg (by omega), if_neg h2, ← hw]; dsimp only; rw [if_neg (Int32.not_lt.mpr hk), ef, if_pos rfl]; rfl
theorem go_6 (h : sn < 16) (h2 : ¬ sn = st) (hw : (k, D1, wl1, wd1) = mKeep le D wl wd U w bl st ct) (hk : 0 ≤ k) (ef : fnd (fsB D1 U w sn) 32 0 = -1) (hp : puts = true) : mNwZ le D1 wl1 wd1 U w bl st ct pl sn = mGo le D wl wd U w bl st ct pl sn puts := by
  subst hp
  simp only [mGo]; rw [if_neg (by omega), if_neg h2, ← hw]; dsimp only; rw [if_neg (Int32.not_lt.mpr hk), ef, if_pos rfl]; rfl
theorem pr_1 (h : ro = true) : (-3, D, T, wl, wd, bl, ct) = mPR le ro D T wl wd bl ct bf p := by subst h; rfl
theorem pr_2 (h : ro = false) (h2 : bl (p / 4) = 0) (ef : lsF T 56 8 = (-1, T)) : (-4, D, T, wl, wd, bl, ct) = mPR le ro D T wl wd bl ct bf p := by subst h; simp [mPR, h2, ef]
theorem pr_3 (h : ro = false) (h2 : bl (p / 4) = 0) (hj : j < 64) (ef : lsF T 56 8 = (nI j, va_up T j true)) : mPR2 le D (va_up T j true) wl wd (va_up bl (p / 4) j) ct bf p = mPR le ro D T wl wd bl ct bf p := by
  have h1 : ¬ nI j = -1 := nI_neg1 (by omega) (by decide)
  subst h; simp [mPR, h2, ef, h1, nI_clamp (show j < 2 ^ 31 by omega)]
theorem pr_4 (h : ro = false) (h2 : ¬ bl (p / 4) = 0) : mPR2 le D T wl wd bl ct bf p = mPR le ro D T wl wd bl ct bf p := by subst h; simp [mPR, h2]
theorem pr2_t {rn : Nat} (hr : rn = 4 * (bl (p / 4) % 64) + p % 4) (hw : (b, D1, wl1, wd1) = mPut le wl wd D rn bf) (hb : b = true) : (0, D1, T, wl1, wd1, bl, max ct (p + 1)) = mPR2 le D T wl wd bl ct bf p := by
  rw [mPut_pwr] at hw
  simp only [mPR2]; rw [← hr, ← hw]
  simp only [pwr, Prod.mk.injEq] at hw
  rw [← hw.1, hb, hw.2.2.1, hw.2.2.2]; rfl
theorem pr2_f {rn : Nat} (hr : rn = 4 * (bl (p / 4) % 64) + p % 4) (hw : (b, D1, wl1, wd1) = mPut le wl wd D rn bf) (hb : b = false) : (-9, D1, T, wl1, wd1, bl, ct) = mPR2 le D T wl wd bl ct bf p := by
  rw [mPut_pwr] at hw
  simp only [mPR2]; rw [← hr, ← hw]
  simp only [pwr, Prod.mk.injEq] at hw
  rw [← hw.1, hb, hw.2.2.1, hw.2.2.2]; rfl
theorem gr_1 (h : ct ≤ p) : (-1, bf) = mGR D bl ct bf p := by simp only [mGR]; rw [if_pos (Or.inl h)]
theorem gr_2 (h : bl (p / 4) = 0) : (-1, bf) = mGR D bl ct bf p := by simp only [mGR]; rw [if_pos (Or.inr h)]
theorem gr_3 (h : p < ct) (h2 : ¬ bl (p / 4) = 0) : (0, gtR D (4 * (bl (p / 4) % 64) + p % 4) bf) = mGR D bl ct bf p := by simp only [mGR]; rw [if_neg (by omega)]
variable {T1 : Nat → Bool} {bl1 bf1 : Nat → Nat} {ct1 st1 pl1 : Nat} {r : Int32}
theorem mv_p (h : puts = true) (hw : (r, D1, T1, wl1, wd1, bl1, ct1) = mPR le ro D T wl wd bl ct bf p) : (r, D1, T1, wl1, wd1, bl1, ct1, bf) = mMv le ro D T wl wd bl ct bf p puts := by
  subst h; simp only [mMv]; rw [← hw]; rfl
theorem mv_g (h : puts = false) (hw : (r, bf1) = mGR D bl ct bf p) : (r, D, T, wl, wd, bl, ct, bf1) = mMv le ro D T wl wd bl ct bf p puts := by
  subst h; simp only [mMv]; rw [← hw]; rfl
theorem nx_1 (h : op = false) : (-1, D, T, wl, wd, bl, st, ct, pl, bf) = mNx le op ro D T wl wd U w bl st ct pl bf puts := by subst h; rfl
theorem nx_2 (h : op = true) (h2 : pl < 28) : mNx2 le ro D T wl wd bl st ct pl bf puts = mNx le op ro D T wl wd U w bl st ct pl bf puts := by
  subst h; simp only [mNx]; rw [if_neg (by decide), if_neg (by omega)]
theorem nx_3 (h : op = true) (h2 : 28 ≤ pl) (hw : (r, D1, wl1, wd1, bl1, st1, ct1, pl1) = mGo le D wl wd U w bl st ct pl (st + 1) puts) (hr : r = 0) : mNx2 le ro D1 T wl1 wd1 bl1 st1 ct1 pl1 bf puts = mNx le op ro D T wl wd U w bl st ct pl bf puts := by
  subst h; simp only [mNx]; rw [if_neg (by decide), if_pos h2, ← hw]; dsimp only; rw [if_pos hr]
theorem nx_4 (h : op = true) (h2 : 28 ≤ pl) (hw : (r, D1, wl1, wd1, bl1, st1, ct1, pl1) = mGo le D wl wd U w bl st ct pl (st + 1) puts) (hr : ¬ r = 0) : (r, D1, T, wl1, wd1, bl1, st1, ct1, pl1, bf) = mNx le op ro D T wl wd U w bl st ct pl bf puts := by
  subst h; simp only [mNx]; rw [if_neg (by decide), if_pos h2, ← hw]; dsimp only; rw [if_neg hr]
theorem nx2_t (hw : (r, D1, T1, wl1, wd1, bl1, ct1, bf1) = mMv le ro D T wl wd bl ct bf pl puts) (hr : r = 0) : (r, D1, T1, wl1, wd1, bl1, st, ct1, pl + 1, bf1) = mNx2 le ro D T wl wd bl st ct pl bf puts := by
  simp only [mNx2]; rw [← hw]; dsimp only; rw [if_pos hr]
theorem nx2_f (hw : (r, D1, T1, wl1, wd1, bl1, ct1, bf1) = mMv le ro D T wl wd bl ct bf pl puts) (hr : ¬ r = 0) : (r, D1, T1, wl1, wd1, bl1, st, ct1, pl, bf1) = mNx2 le ro D T wl wd bl st ct pl bf puts := by
  simp only [mNx2]; rw [← hw]; dsimp only; rw [if_neg hr]
variable {rec : Nat} {D2 : Nat → Nat} {T2 : Nat → Bool} {wl2 : Nat} {wd2 : Int32} {bl2 bf2 : Nat → Nat} {ct2 : Nat} {r2 : Int32}
theorem at_1 (h : op = false) : (-1, D, T, wl, wd, bl, st, ct, pl, bf) = mAt le op ro D T wl wd U w bl st ct pl bf rec puts := by subst h; rfl
theorem at_2 (h : op = true) (hw : (r, D1, wl1, wd1, bl1, st1, ct1, pl1) = mGo le D wl wd U w bl st ct pl (rec / 28) puts) (hr : ¬ r = 0) : (r, D1, T, wl1, wd1, bl1, st1, ct1, pl1, bf) = mAt le op ro D T wl wd U w bl st ct pl bf rec puts := by
  subst h; simp only [mAt]; rw [if_neg (by decide), ← hw]; dsimp only; rw [if_neg hr]
theorem at_3 (h : op = true) (hw : (r, D1, wl1, wd1, bl1, st1, ct1, pl1) = mGo le D wl wd U w bl st ct pl (rec / 28) puts) (hr : r = 0) (hv : (r2, D2, T2, wl2, wd2, bl2, ct2, bf2) = mMv le ro D1 T wl1 wd1 bl1 ct1 bf (rec % 28) puts) (h2 : r2 = 0) : (r2, D2, T2, wl2, wd2, bl2, st1, ct2, rec % 28, bf2) = mAt le op ro D T wl wd U w bl st ct pl bf rec puts := by
  subst h; simp only [mAt]; rw [if_neg (by decide), ← hw]; dsimp only; rw [if_pos hr, ← hv]; dsimp only; rw [if_pos h2]
theorem at_4 (h : op = true) (hw : (r, D1, wl1, wd1, bl1, st1, ct1, pl1) = mGo le D wl wd U w bl st ct pl (rec / 28) puts) (hr : r = 0) (hv : (r2, D2, T2, wl2, wd2, bl2, ct2, bf2) = mMv le ro D1 T wl1 wd1 bl1 ct1 bf (rec % 28) puts) (h2 : ¬ r2 = 0) : (r2, D2, T2, wl2, wd2, bl2, st1, ct2, pl1, bf2) = mAt le op ro D T wl wd U w bl st ct pl bf rec puts := by
  subst h; simp only [mAt]; rw [if_neg (by decide), ← hw]; dsimp only; rw [if_pos hr, ← hv]; dsimp only; rw [if_neg h2]
end CASES
theorem go_pl {le : Bool} {D : Nat → Nat} {wl : Nat} {wd : Int32} {U : Nat} {w bl : Nat → Nat} {st ct pl sn : Nat} {puts : Bool} {r : Int32} {D1 : Nat → Nat} {wl1 : Nat} {wd1 : Int32} {bl1 : Nat → Nat} {st1 ct1 pl1 : Nat}
    (hs : ¬ sn = st) (hw : (r, D1, wl1, wd1, bl1, st1, ct1, pl1) = mGo le D wl wd U w bl st ct pl sn puts) (hr : r = 0) : pl1 = 0 := by
  subst hr
  simp only [mGo] at hw
  generalize mKeep le D wl wd U w bl st ct = k at hw
  obtain ⟨k, D2, wl2, wd2⟩ := k
  dsimp only at hw
  rw [if_neg hs] at hw
  split at hw
  · exact absurd (show (0 : Int32) = -2 from congrArg Prod.fst hw) (by decide)
  split at hw
  · rename_i hk
    have e : (0 : Int32) = k := congrArg Prod.fst hw
    rw [← e] at hk; exact absurd hk (by decide)
  split at hw
  · split at hw
    · simp only [mNew] at hw
      split at hw
      · exact absurd (show (0 : Int32) = zI (-2) from congrArg Prod.fst hw) (by decide)
      · simp only [Prod.mk.injEq] at hw
        exact hw.2.2.2.2.2.2.2
    · exact absurd (show (0 : Int32) = -1 from congrArg Prod.fst hw) (by decide)
  · simp only [Prod.mk.injEq] at hw
    exact hw.2.2.2.2.2.2.2
