/-! what every call keeps in bounds -/
section KEEPB
variable {le op ro puts gd : Bool} {D w v bl bf : Nat → Nat} {T : Nat → Bool} {wl U st ct pl p rec : Nat} {wd : Int32}
theorem ok_open {r : Int32} {op' ro' : Bool} {bl' : Nat → Nat} {st' ct' pl' : Nat} (hw : (r, op', ro', bl', st', ct', pl') = mOpen D U w ro bl st ct pl) (hD : ∀ j, D j < 256) (hb : ∀ j, bl j < 256) (hs : st < 16) (hc : ct < 256) (hp : pl ≤ 28) : (∀ j, bl' j < 256) ∧ st' < 16 ∧ ct' < 256 ∧ pl' ≤ 28 := by
  simp only [mOpen] at hw
  split at hw
  · simp only [Prod.mk.injEq] at hw
    obtain ⟨-, -, -, rfl, rfl, rfl, rfl⟩ := hw
    exact ⟨hb, hs, hc, hp⟩
  · rename_i hf
    simp only [Prod.mk.injEq] at hw
    obtain ⟨-, -, -, rfl, rfl, rfl, rfl⟩ := hw
    obtain ⟨f1, f2, -⟩ := fnd_some hf
    simp only [fsB, Bool.and_eq_true, decide_eq_true_eq] at f2
    exact ⟨cpy_lt hD hb _ _ _, by rw [f2.1]; omega, hD _, Nat.zero_le _⟩
theorem ok_make {r : Int32} {op' ro' : Bool} {D' bl' : Nat → Nat} {wl' st' ct' pl' : Nat} {wd' : Int32} (hw : (r, op', ro', D', wl', wd', bl', st', ct', pl') = mMake le op ro D wl wd U w bl st ct pl) (hD : ∀ j, D j < 256) (hwb : ∀ j, w j < 128) (hU : U < 16) (hl : wl ≤ 1000) (hb : ∀ j, bl j < 256) (hs : st < 16) (hc : ct < 256) (hp : pl ≤ 28) : (∀ j, D' j < 256) ∧ wl' ≤ 1000 ∧ (∀ j, bl' j < 256) ∧ st' < 16 ∧ ct' < 256 ∧ pl' ≤ 28 := by
  have h := mNew_ok (le := le) (wd := wd) (sn := 0) hD hwb hU hl hb hs hc hp (by omega)
  simp only [mMake, Prod.mk.injEq] at hw
  obtain ⟨-, -, -, hw⟩ := hw
  rw [show mNew le D wl wd U w bl st ct pl 0 = ((mNew le D wl wd U w bl st ct pl 0).1, D', wl', wd', bl', st', ct', pl') from Prod.ext rfl hw.symm] at h
  exact h
theorem ok_cls {r : Int32} {D' : Nat → Nat} {wl' : Nat} {wd' : Int32} (hw : (r, D', wl', wd') = mCls le op D wl wd U w bl st ct) (hD : ∀ j, D j < 256) (hl : wl ≤ 1000) (hb : ∀ j, bl j < 256) (hc : ct < 256) : (∀ j, D' j < 256) ∧ wl' ≤ 1000 := by
  have h := mKeep_ok (le := le) (wd := wd) (U := U) (w := w) (st := st) hD hl hb hc
  simp only [mCls] at hw
  split at hw
  · rw [← hw] at h; exact h
  · simp only [Prod.mk.injEq] at hw
    obtain ⟨-, rfl, rfl, -⟩ := hw
    exact ⟨hD, hl⟩
theorem mEr_ok : ∀ (n e c : Nat) (D : Nat → Nat) (T : Nat → Bool) (wl : Nat) (wd : Int32), (∀ j, D j < 256) → (∀ b, b < 8 → T b = true) → wl ≤ 1000 → (∀ j, (mEr le U w n e c D T wl wd).2.1 j < 256) ∧ (∀ b, b < 8 → (mEr le U w n e c D T wl wd).2.2.1 b = true) ∧ (mEr le U w n e c D T wl wd).2.2.2.1 ≤ 1000
  | 0, _, _, _, _, _, _, h1, h2, h3 => ⟨h1, h2, h3⟩
  | n + 1, e, c, D, T, wl, wd, h1, h2, h3 => by
    simp only [mEr]
    split
    · split
      · exact mEr_ok n (e + 1) (c + 1) _ _ _ _ (efD_lt h1) (gbB_true h2 7) (wlW_le h3)
      · exact ⟨h1, gbB_true h2 7, wlW_le h3⟩
    · exact mEr_ok n (e + 1) c _ _ _ _ h1 h2 h3
theorem ok_erase {r : Int32} {D' : Nat → Nat} {T' : Nat → Bool} {wl' : Nat} {wd' : Int32} (hw : (r, D', T', wl', wd') = mErase le D T wl wd U w) (hD : ∀ j, D j < 256) (h8 : ∀ b, b < 8 → T b = true) (hl : wl ≤ 1000) : (∀ j, D' j < 256) ∧ (∀ b, b < 8 → T' b = true) ∧ wl' ≤ 1000 := by
  simp only [mErase] at hw
  split at hw
  · simp only [Prod.mk.injEq] at hw
    obtain ⟨-, rfl, rfl, rfl, -⟩ := hw
    exact ⟨hD, h8, hl⟩
  · have h := mEr_ok (le := le) (U := U) (w := w) 32 0 0 D T wl wd hD h8 hl
    rw [← hw] at h; exact h
theorem mRn_ok (hv : ∀ j, v j < 128) : ∀ (n e c : Nat) (D : Nat → Nat) (wl : Nat) (wd : Int32), (∀ j, D j < 256) → wl ≤ 1000 → (∀ j, (mRn le U w v n e c D wl wd).2.1 j < 256) ∧ (mRn le U w v n e c D wl wd).2.2.1 ≤ 1000
  | 0, _, _, _, _, _, h1, h3 => ⟨h1, h3⟩
  | n + 1, e, c, D, wl, wd, h1, h3 => by
    simp only [mRn]
    split
    · split
      · exact mRn_ok hv n (e + 1) (c + 1) _ _ _ (nmD_lt h1 hv) (wlW_le h3)
      · exact ⟨h1, wlW_le h3⟩
    · exact mRn_ok hv n (e + 1) c _ _ _ h1 h3
theorem ok_rename {r : Int32} {D' : Nat → Nat} {wl' : Nat} {wd' : Int32} (hw : (r, D', wl', wd') = mRename le D wl wd U w v) (hD : ∀ j, D j < 256) (hv : ∀ j, v j < 128) (hl : wl ≤ 1000) : (∀ j, D' j < 256) ∧ wl' ≤ 1000 := by
  simp only [mRename] at hw
  split at hw
  · simp only [Prod.mk.injEq] at hw
    obtain ⟨-, rfl, rfl, -⟩ := hw
    exact ⟨hD, hl⟩
  · have h := mRn_ok (le := le) (U := U) (w := w) hv 32 0 0 D wl wd hD hl
    rw [← hw] at h; exact h
theorem mGd_ok : ∀ (n e c : Nat) (D : Nat → Nat) (wl : Nat) (wd : Int32), (∀ j, D j < 256) → wl ≤ 1000 → (∀ j, (mGd le U w gd n e c D wl wd).2.1 j < 256) ∧ (mGd le U w gd n e c D wl wd).2.2.1 ≤ 1000
  | 0, _, _, _, _, _, h1, h3 => ⟨h1, h3⟩
  | n + 1, e, c, D, wl, wd, h1, h3 => by
    simp only [mGd]
    split
    · split
      · exact mGd_ok n (e + 1) (c + 1) _ _ _ (gdD_lt h1) (wlW_le h3)
      · exact ⟨h1, wlW_le h3⟩
    · exact mGd_ok n (e + 1) c _ _ _ h1 h3
theorem ok_guard {r : Int32} {D' : Nat → Nat} {wl' : Nat} {wd' : Int32} (hw : (r, D', wl', wd') = mGd le U w gd 32 0 0 D wl wd) (hD : ∀ j, D j < 256) (hl : wl ≤ 1000) : (∀ j, D' j < 256) ∧ wl' ≤ 1000 := by
  have h := mGd_ok (le := le) (U := U) (w := w) (gd := gd) 32 0 0 D wl wd hD hl
  rw [← hw] at h; exact h
def okP (y : Int32 × (Nat → Nat) × (Nat → Bool) × Nat × Int32 × (Nat → Nat) × Nat) : Prop := (∀ j, y.2.1 j < 256) ∧ (∀ b, b < 8 → y.2.2.1 b = true) ∧ y.2.2.2.1 ≤ 1000 ∧ (∀ j, y.2.2.2.2.2.1 j < 256) ∧ y.2.2.2.2.2.2 < 256
theorem mPR2_ok (hD : ∀ j, D j < 256) (h8 : ∀ b, b < 8 → T b = true) (hl : wl ≤ 1000) (hb : ∀ j, bl j < 256) (hc : ct < 256) (hf : ∀ j, bf j < 256) (hp : p < 28) : okP (mPR2 le D T wl wd bl ct bf p) := by
  refine ⟨pwr_lt (wd := wd) hD (cpy_lt hf hD _ _ _), h8, wlW_le hl, hb, ?_⟩
  show (if okW le wl then max ct (p + 1) else ct) < 256
  split <;> omega
theorem mPR_ok (hD : ∀ j, D j < 256) (h8 : ∀ b, b < 8 → T b = true) (hl : wl ≤ 1000) (hb : ∀ j, bl j < 256) (hc : ct < 256) (hf : ∀ j, bf j < 256) (hp : p < 28) : okP (mPR le ro D T wl wd bl ct bf p) := by
  have h0 : ∀ r : Int32, okP (r, D, T, wl, wd, bl, ct) := fun r => ⟨hD, h8, hl, hb, hc⟩
  simp only [mPR]
  split
  · exact h0 _
  split
  · split
    · exact h0 _
    · rename_i hq
      rcases lsF_cases T 56 8 with q | ⟨j, h1, h2, h3, h4⟩
      · rw [q] at hq; exact absurd rfl hq
      · rw [h4]
        dsimp only
        rw [nI_clamp (by omega)]
        refine mPR2_ok hD (fun b hb8 => ?_) hl (up_lt hb (by omega) _) hc hf hp
        rw [va_up_ne _ _ (by omega)]; exact h8 b hb8
  · exact mPR2_ok hD h8 hl hb hc hf hp
def okM (y : Int32 × (Nat → Nat) × (Nat → Bool) × Nat × Int32 × (Nat → Nat) × Nat × (Nat → Nat)) : Prop := (∀ j, y.2.1 j < 256) ∧ (∀ b, b < 8 → y.2.2.1 b = true) ∧ y.2.2.2.1 ≤ 1000 ∧ (∀ j, y.2.2.2.2.2.1 j < 256) ∧ y.2.2.2.2.2.2.1 < 256 ∧ (∀ j, y.2.2.2.2.2.2.2 j < 256)
theorem mMv_ok (hD : ∀ j, D j < 256) (h8 : ∀ b, b < 8 → T b = true) (hl : wl ≤ 1000) (hb : ∀ j, bl j < 256) (hc : ct < 256) (hf : ∀ j, bf j < 256) (hp : p < 28) : okM (mMv le ro D T wl wd bl ct bf p puts) := by
  simp only [mMv]
  split
  · have h := mPR_ok (le := le) (ro := ro) (wd := wd) hD h8 hl hb hc hf hp
    generalize mPR le ro D T wl wd bl ct bf p = y at h ⊢
    obtain ⟨r, D1, T1, wl1, wd1, bl1, ct1⟩ := y
    exact ⟨h.1, h.2.1, h.2.2.1, h.2.2.2.1, h.2.2.2.2, hf⟩
  · simp only [mGR]
    split
    · exact ⟨hD, h8, hl, hb, hc, hf⟩
    · exact ⟨hD, h8, hl, hb, hc, cpy_lt hD hf _ _ _⟩
def okN (y : Int32 × (Nat → Nat) × (Nat → Bool) × Nat × Int32 × (Nat → Nat) × Nat × Nat × Nat × (Nat → Nat)) : Prop := (∀ j, y.2.1 j < 256) ∧ (∀ b, b < 8 → y.2.2.1 b = true) ∧ y.2.2.2.1 ≤ 1000 ∧ (∀ j, y.2.2.2.2.2.1 j < 256) ∧ y.2.2.2.2.2.2.1 < 16 ∧ y.2.2.2.2.2.2.2.1 < 256 ∧ y.2.2.2.2.2.2.2.2.1 ≤ 28 ∧ (∀ j, y.2.2.2.2.2.2.2.2.2 j < 256)
theorem mNx2_ok (hD : ∀ j, D j < 256) (h8 : ∀ b, b < 8 → T b = true) (hl : wl ≤ 1000) (hb : ∀ j, bl j < 256) (hs : st < 16) (hc : ct < 256) (hf : ∀ j, bf j < 256) (hp : pl < 28) : okN (mNx2 le ro D T wl wd bl st ct pl bf puts) := by
  have h := mMv_ok (le := le) (ro := ro) (wd := wd) (puts := puts) hD h8 hl hb hc hf hp
  simp only [mNx2]
  generalize mMv le ro D T wl wd bl ct bf pl puts = y at h ⊢
  obtain ⟨r, D1, T1, wl1, wd1, bl1, ct1, bf1⟩ := y
  refine ⟨h.1, h.2.1, h.2.2.1, h.2.2.2.1, hs, h.2.2.2.2.1, ?_, h.2.2.2.2.2⟩
  show (if r = 0 then pl + 1 else pl) ≤ 28
  split <;> omega
theorem mNx_ok (hD : ∀ j, D j < 256) (h8 : ∀ b, b < 8 → T b = true) (hl : wl ≤ 1000) (hwb : ∀ j, w j < 128) (hU : U < 16) (hb : ∀ j, bl j < 256) (hs : st < 16) (hc : ct < 256) (hf : ∀ j, bf j < 256) (hp : pl ≤ 28) : okN (mNx le op ro D T wl wd U w bl st ct pl bf puts) := by
  have h0 : ∀ r : Int32, okN (r, D, T, wl, wd, bl, st, ct, pl, bf) := fun r => ⟨hD, h8, hl, hb, hs, hc, hp, hf⟩
  simp only [mNx]
  split
  · exact h0 _
  split
  · have h := mGo_ok (le := le) (wd := wd) (sn := st + 1) (puts := puts) hD hwb hU hl hb hs hc hp
    have hpl := fun r D1 wl1 wd1 bl1 st1 ct1 pl1 => go_pl (le := le) (D := D) (wl := wl) (wd := wd) (U := U) (w := w) (bl := bl) (st := st) (ct := ct) (pl := pl) (sn := st + 1) (puts := puts) (r := r) (D1 := D1) (wl1 := wl1) (wd1 := wd1) (bl1 := bl1) (st1 := st1) (ct1 := ct1) (pl1 := pl1) (by omega)
    generalize mGo le D wl wd U w bl st ct pl (st + 1) puts = y at h hpl ⊢
    obtain ⟨g, D1, wl1, wd1, bl1, st1, ct1, pl1⟩ := y
    dsimp only at h ⊢
    split
    · rename_i hg
      exact mNx2_ok h.1 h8 h.2.1 h.2.2.1 h.2.2.2.1 h.2.2.2.2.1 hf (by rw [hpl _ _ _ _ _ _ _ _ rfl hg]; omega)
    · exact ⟨h.1, h8, h.2.1, h.2.2.1, h.2.2.2.1, h.2.2.2.2.1, h.2.2.2.2.2, hf⟩
  · exact mNx2_ok hD h8 hl hb hs hc hf (by omega)
theorem mAt_ok (hD : ∀ j, D j < 256) (h8 : ∀ b, b < 8 → T b = true) (hl : wl ≤ 1000) (hwb : ∀ j, w j < 128) (hU : U < 16) (hb : ∀ j, bl j < 256) (hs : st < 16) (hc : ct < 256) (hf : ∀ j, bf j < 256) (hp : pl ≤ 28) : okN (mAt le op ro D T wl wd U w bl st ct pl bf rec puts) := by
  simp only [mAt]
  split
  · exact ⟨hD, h8, hl, hb, hs, hc, hp, hf⟩
  · have h := mGo_ok (le := le) (wd := wd) (sn := rec / 28) (puts := puts) hD hwb hU hl hb hs hc hp
    generalize mGo le D wl wd U w bl st ct pl (rec / 28) puts = y at h ⊢
    obtain ⟨g, D1, wl1, wd1, bl1, st1, ct1, pl1⟩ := y
    dsimp only at h ⊢
    split
    · have h2 := mMv_ok (le := le) (ro := ro) (wd := wd1) (puts := puts) (p := rec % 28) h.1 h8 h.2.1 h.2.2.1 h.2.2.2.2.1 hf (by omega)
      generalize mMv le ro D1 T wl1 wd1 bl1 ct1 bf (rec % 28) puts = z at h2 ⊢
      obtain ⟨r, D2, T2, wl2, wd2, bl2, ct2, bf2⟩ := z
      refine ⟨h2.1, h2.2.1, h2.2.2.1, h2.2.2.2.1, h.2.2.2.1, h2.2.2.2.2.1, ?_, h2.2.2.2.2.2⟩
      have := h.2.2.2.2.2
      show (if r = 0 then rec % 28 else pl1) ≤ 28
      dsimp only at this
      split <;> omega
    · exact ⟨h.1, h8, h.2.1, h.2.2.1, h.2.2.2.1, h.2.2.2.2.1, h.2.2.2.2.2, hf⟩
theorem ok_N {r : Int32} {D' : Nat → Nat} {T' : Nat → Bool} {wl' : Nat} {wd' : Int32} {bl' : Nat → Nat} {st' ct' pl' : Nat} {bf' : Nat → Nat} {y : Int32 × (Nat → Nat) × (Nat → Bool) × Nat × Int32 × (Nat → Nat) × Nat × Nat × Nat × (Nat → Nat)} (hw : (r, D', T', wl', wd', bl', st', ct', pl', bf') = y) (h : okN y) : (∀ j, D' j < 256) ∧ (∀ b, b < 8 → T' b = true) ∧ wl' ≤ 1000 ∧ (∀ j, bl' j < 256) ∧ st' < 16 ∧ ct' < 256 ∧ pl' ≤ 28 ∧ (∀ j, bf' j < 256) := by
  subst hw; exact h
end KEEPB
/-- an argument: within bounds, or refused by both -/
theorem ix_cases (x : Int32) (n : Nat) (h0 : 0 < n) (hn : n < 2 ^ 31) : (∃ j, j < n ∧ x = nI j) ∨ ((x < 0 ∨ ¬ x < nI n) ∧ (x < 0 ∨ ¬ x ≤ nI (n - 1))) := by
  by_cases hx : x < 0
  · exact Or.inr ⟨Or.inl hx, Or.inl hx⟩
  · have h1 : 0 ≤ x := Int32.not_lt.mp hx
    have h2 : x = nI x.toNatClampNeg := by
      have := Int32.le_iff_toInt_le.mp h1
      apply Int32.toInt_inj.mp
      rw [nI_toInt (by have := Int32.toInt_lt x; simp only [Int32.toNatClampNeg]; omega)]
      simp only [Int32.toNatClampNeg]
      have h0 : (0 : Int32).toInt = 0 := rfl
      omega
    have h3 : x.toNatClampNeg < 2 ^ 31 := by
      have := Int32.toInt_lt x
      simp only [Int32.toNatClampNeg]; omega
    by_cases h4 : x.toNatClampNeg < n
    · exact Or.inl ⟨_, h4, h2⟩
    · refine Or.inr ⟨Or.inr ?_, Or.inr ?_⟩
      · rw [h2]; exact fun z => h4 ((nI_ltI h3 hn).mp z)
      · rw [h2]; exact fun z => h4 (by have := (nI_leI h3 (by omega)).mp z; omega)
