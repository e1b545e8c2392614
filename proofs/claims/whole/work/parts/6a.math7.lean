theorem cnt_n {P : Nat → Bool} {n : Nat} (h : P n = false) : cnt P (n + 1) = cnt P n := by simp [cnt, h]
theorem cnt_y {P : Nat → Bool} {n : Nat} (h : P n = true) : cnt P (n + 1) = cnt P n + 1 := by simp [cnt, h]
theorem manT (n : Nat) (only : Bool) (h : only = true → ¬ n = 0) : (only = true ∧ manI n true only = -3) ∨ (only = false ∧ n = 0 ∧ manI n true only = -1) ∨ (only = false ∧ ¬ n = 0 ∧ manI n true only = nI n) := by
  cases only
  · by_cases e : n = 0
    · exact Or.inr (Or.inl ⟨rfl, e, by simp [manI, e]⟩)
    · exact Or.inr (Or.inr ⟨rfl, e, by simp [manI, e]⟩)
  · exact Or.inl ⟨rfl, by simp [manI, h rfl]⟩
theorem manF (n : Nat) (only : Bool) : manI n false only = hmI n := by simp [manI, hmI]
theorem hr_cnt {D : Nat → Nat} {U : Nat} {w : Nat → Nat} (h : anyB (hrB D U w) 32 = true) : ¬ cnt (ftB D U w) 32 = 0 := anyB_cnt (Q := roB D) 32 h
theorem ftA_congr {D D' w : Nat → Nat} {j : Nat} (h : ∀ i, i < 16 → D' (16 * j + i) = D (16 * j + i)) : ∀ n, n ≤ 6 → ftA D' w j n = ftA D w j n
  | 0, _ => rfl
  | n + 1, hn => by
    simp only [ftA]; rw [ftA_congr h n (by omega)]
    simp only [ltB]; rw [show 16 * j + n + 1 = 16 * j + (n + 1) by omega, h (n + 1) (by omega)]
theorem ftB_congr {D D' w : Nat → Nat} {U j : Nat} (h : ∀ i, i < 16 → D' (16 * j + i) = D (16 * j + i)) : ftB D' U w j = ftB D U w j := by
  simp only [ftB]; rw [ftA_congr h 6 (by omega), show D' (16 * j) = D (16 * j) from h 0 (by omega)]
theorem ft_row {row D w : Nat → Nat} {U j k : Nat} (h : j ≠ k) : ftB (cpW row D k) U w j = ftB D U w j := ftB_congr (fun i hi => cpW_out (by omega))
theorem ef_twin (D : Nat → Nat) (j : Nat) : va_up D (16 * j) 229 = efD D j := by
  funext i
  by_cases h : i < 16 * j ∨ 16 * j + 16 ≤ i
  · simp only [efD]; rw [cpW_out h, va_up_ne _ _ (by omega)]
  · obtain ⟨r, hr, rfl⟩ : ∃ r, r < 16 ∧ i = 16 * j + r := ⟨i - 16 * j, by omega, by omega⟩
    simp only [efD]; rw [cpW_in hr]
    by_cases e : r = 0
    · subst e; rw [va_up_self]; exact va_up_self _ _ _
    · rw [va_up_ne _ _ (by omega), va_up_ne _ _ e, gtR_in hr]
theorem gd_twin (D : Nat → Nat) (j : Nat) (gd : Bool) : va_up D (16 * j + 5) (D (16 * j + 5) % 128 + (if gd then 128 else 0)) = gdD D j gd := by
  funext i
  by_cases h : i < 16 * j ∨ 16 * j + 16 ≤ i
  · simp only [gdD]; rw [cpW_out h, va_up_ne _ _ (by omega)]
  · obtain ⟨r, hr, rfl⟩ : ∃ r, r < 16 ∧ i = 16 * j + r := ⟨i - 16 * j, by omega, by omega⟩
    simp only [gdD]; rw [cpW_in hr]; simp only [gdR]
    by_cases e : r = 5
    · subst e; rw [va_up_self, va_up_self]
    · rw [va_up_ne _ _ (by omega), va_up_ne _ _ e, gtR_in hr]
def rnL (D : Nat → Nat) (en : Nat) (v : Nat → Nat) (i : Nat) : Nat := v i + (if i = 4 then D (16 * en + 5) / 128 * 128 else 0)
theorem nm_twin (D : Nat → Nat) (j : Nat) (v : Nat → Nat) : va_cpy (rnL D j v) D 0 (16 * j + 1) 6 = nmD D j v := by
  funext i
  by_cases h : i < 16 * j ∨ 16 * j + 16 ≤ i
  · simp only [nmD]; rw [cpW_out h, pk_cpy_out (by omega)]
  · obtain ⟨r, hr, rfl⟩ : ∃ r, r < 16 ∧ i = 16 * j + r := ⟨i - 16 * j, by omega, by omega⟩
    simp only [nmD]; rw [cpW_in hr]; simp only [nmR]
    by_cases e : r = 5
    · subst e; rw [va_up_self, pk_cpy_in (by omega) (by omega), show 0 + (16 * j + 5 - (16 * j + 1)) = 4 by omega]; simp [rnL]
    · rw [va_up_ne _ _ e]
      by_cases q : 1 ≤ r ∧ r < 7
      · rw [pk_cpy_in (by omega) (by omega), pk_cpy_in (by omega) (by omega), show 0 + (16 * j + r - (16 * j + 1)) = 0 + (r - 1) by omega]
        simp only [rnL]; rw [if_neg (by omega)]; rfl
      · rw [pk_cpy_out (by omega), pk_cpy_out (by omega), gtR_in hr]
theorem gbB_true {D : Nat → Nat} {en : Nat} {T : Nat → Bool} (h8 : ∀ b, b < 8 → T b = true) : ∀ k b, b < 8 → gbB D en T k b = true
  | 0, b, hb => h8 b hb
  | k + 1, b, hb => by
    simp only [gbB]
    by_cases e : b = D (16 * en + k + 9) % 64
    · rw [← e, va_up_self]; simp [hb]
    · rw [va_up_ne _ _ e]; exact gbB_true h8 k b hb
theorem gb_s {D : Nat → Nat} {en : Nat} {T : Nat → Bool} {k i : Nat} {v : Bool} (hi : i = D (16 * en + k + 9) % 64) (hv : v = decide (i < 8)) : va_up (gbB D en T k) i v = gbB D en T (k + 1) := by
  subst hv; subst hi; rfl
theorem gb_no {D : Nat → Nat} {en : Nat} {T : Nat → Bool} {k i : Nat} (h8 : ∀ b, b < 8 → T b = true) (h : gbB D en T k i = false) : false = decide (i < 8) := by
  by_cases q : i < 8
  · rw [gbB_true h8 k i q] at h; cases h
  · simp [q]
theorem mEr_none {le : Bool} {U : Nat} {w : Nat → Nat} {D : Nat → Nat} {T : Nat → Bool} {wl : Nat} {wd : Int32} : ∀ n e c, (∀ j, e ≤ j → j < e + n → ftB D U w j = false) → mEr le U w n e c D T wl wd = (hmI c, D, T, wl, wd)
  | 0, e, c, _ => rfl
  | n + 1, e, c, h => by
    simp only [mEr]; rw [h e (by omega) (by omega)]
    exact mEr_none n (e + 1) c (fun j h1 h2 => h j (by omega) (by omega))
theorem mRn_none {le : Bool} {U : Nat} {w v : Nat → Nat} {D : Nat → Nat} {wl : Nat} {wd : Int32} : ∀ n e c, (∀ j, e ≤ j → j < e + n → ftB D U w j = false) → mRn le U w v n e c D wl wd = (hmI c, D, wl, wd)
  | 0, e, c, _ => rfl
  | n + 1, e, c, h => by
    simp only [mRn]; rw [h e (by omega) (by omega)]
    exact mRn_none n (e + 1) c (fun j h1 h2 => h j (by omega) (by omega))
theorem cnt_0 {P : Nat → Bool} : ∀ n, cnt P n = 0 → ∀ j, j < n → P j = false
  | 0, _, j, hj => absurd hj (by omega)
  | n + 1, h, j, hj => by
    simp only [cnt] at h
    by_cases e : j = n
    · subst e
      cases q : P j
      · rfl
      · rw [q] at h; simp at h
    · exact cnt_0 n (by omega) j (by omega)
