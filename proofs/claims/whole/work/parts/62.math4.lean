section TWIN
variable {le op ro : Bool} {D : Nat → Nat} {T : Nat → Bool} {wl : Nat} {wd : Int32} {U : Nat} {w bl bf : Nat → Nat} {st ct pl sn p j : Nat} {puts : Bool}
theorem tw_new_t (ho : okW le wl = true) (hj : j < 32) (h : fnd (frB D) 32 0 = nI j) : (nI j, nwD D j U w sn, wlW le wl, wdW le wl wd, zbN bl, sn, 0, 0) = mNew le D wl wd U w bl st ct pl sn := by
  rw [new_yes hj h]; simp [pwr, ho]
theorem tw_new_f (ho : okW le wl = false) (hj : j < 32) (h : fnd (frB D) 32 0 = nI j) : (-9, D, wlW le wl, wdW le wl wd, zbN bl, sn, 0, 0) = mNew le D wl wd U w bl st ct pl sn := by
  rw [new_yes hj h]; simp [pwr, ho]
theorem tw_keep_t (ho : okW le wl = true) (hj : j < 32) (h : fnd (fsB D U w st) 32 0 = nI j) : (nI j, kpD D j bl ct, wlW le wl, wdW le wl wd) = mKeep le D wl wd U w bl st ct := by
  rw [keep_yes hj h]; simp [pwr, ho]
theorem tw_keep_f (ho : okW le wl = false) (hj : j < 32) (h : fnd (fsB D U w st) 32 0 = nI j) : (-9, D, wlW le wl, wdW le wl wd) = mKeep le D wl wd U w bl st ct := by
  rw [keep_yes hj h]; simp [pwr, ho]
theorem tw_pr_t {x : Nat} (ho : okW le wl = true) (hx : bl (p / 4) = x) : (0, cpW bf D (4 * (x % 64) + p % 4), T, wlW le wl, wdW le wl wd, bl, max ct (p + 1)) = mPR2 le D T wl wd bl ct bf p := by
  subst hx; simp [mPR2, pwr, ho]
theorem tw_pr_f (ho : okW le wl = false) : (-9, D, T, wlW le wl, wdW le wl wd, bl, ct) = mPR2 le D T wl wd bl ct bf p := by simp [mPR2, pwr, ho]
theorem lsF_08 (h8 : ∀ b, b < 8 → T b = true) : lsF T 64 0 = lsF T 56 8 := by
  simp [lsF, h8 0 (by omega), h8 1 (by omega), h8 2 (by omega), h8 3 (by omega), h8 4 (by omega), h8 5 (by omega), h8 6 (by omega), h8 7 (by omega)]
theorem fB_up1 {bls : Nat → Nat → Nat} {c k i v : Nat} (hk : k < 7) (hi : i = 7 * c + k) : va_up (fB bls) i v = fB (va_up bls c (va_up (bls c) k v)) := by
  rw [← fB_up hk hi, up_id]
theorem up_t {α : Type} {f : Nat → α} {c : Nat} {v : α} (h : f c = v) : va_up f c v = f := by rw [← h]; exact up_id f c
theorem go_sign {r : Int32} {y : (Nat → Nat) × Nat × Int32 × (Nat → Nat) × Nat × Nat × Nat} (hw : (r, y) = mGo le D wl wd U w bl st ct pl sn puts) : r = 0 ∨ ¬ 0 ≤ r := by
  have e : r = (mGo le D wl wd U w bl st ct pl sn puts).1 := congrArg Prod.fst hw
  rw [e]
  simp only [mGo]
  split
  · exact Or.inr (show ¬ (0 : Int32) ≤ -2 by decide)
  split
  · exact Or.inl rfl
  generalize mKeep le D wl wd U w bl st ct = k
  obtain ⟨k, D1, wl1, wd1⟩ := k
  dsimp only
  split
  · rename_i h; exact Or.inr (Int32.not_le.mpr h)
  split
  · split
    · generalize mNew le D1 wl1 wd1 U w bl st ct pl sn = q
      obtain ⟨q, z⟩ := q
      dsimp only
      by_cases h : q < 0
      · exact Or.inr (by simp only [zI]; rw [if_pos h]; exact Int32.not_le.mpr h)
      · exact Or.inl (by simp only [zI]; rw [if_neg h])
    · exact Or.inr (show ¬ (0 : Int32) ≤ -1 by decide)
  · exact Or.inl rfl
theorem cp_rec (x : Nat) : va_cpy bf D 0 (64 * (x % 64) + 16 * (p % 4)) 16 = cpW bf D (4 * (x % 64) + p % 4) := by
  simp only [cpW]; congr 1; omega
theorem gt_rec (x : Nat) : va_cpy D bf (64 * (x % 64) + 16 * (p % 4)) 0 16 = gtR D (4 * (x % 64) + p % 4) bf := by
  simp only [gtR]; congr 1; omega
end TWIN
