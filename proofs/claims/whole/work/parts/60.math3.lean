/-! the twin's numbers -/
def pI (le : Bool) (wl : Nat) : Int32 := if le then -1 else nI wl
def fN (nms : Nat → Nat → Nat) : Nat → Nat := fun j => nms (j / 6) (j % 6)
def fB (bls : Nat → Nat → Nat) : Nat → Nat := fun j => bls (j / 7) (j % 7)
theorem fN_at {nms : Nat → Nat → Nat} {c k : Nat} (h : k < 6) : fN nms (6 * c + k) = nms c k := by
  simp only [fN]; rw [show (6 * c + k) / 6 = c by omega, show (6 * c + k) % 6 = k by omega]
theorem fB_at {bls : Nat → Nat → Nat} {c k : Nat} (h : k < 7) : fB bls (7 * c + k) = bls c k := by
  simp only [fB]; rw [show (7 * c + k) / 7 = c by omega, show (7 * c + k) % 7 = k by omega]
theorem fN_up {nms : Nat → Nat → Nat} {g : Nat → Nat} {c k i v : Nat} (hk : k < 6) (hi : i = 6 * c + k) : va_up (fN (va_up nms c g)) i v = fN (va_up nms c (va_up g k v)) := by
  subst hi
  funext j
  by_cases e : j = 6 * c + k
  · subst e; rw [va_up_self, fN_at hk, va_up_self, va_up_self]
  · rw [va_up_ne _ _ e]
    simp only [fN]
    by_cases e2 : j / 6 = c
    · subst e2; rw [va_up_self, va_up_self, va_up_ne _ _ (by omega)]
    · rw [va_up_ne _ _ e2, va_up_ne _ _ e2]
theorem fB_up {bls : Nat → Nat → Nat} {g : Nat → Nat} {c k i v : Nat} (hk : k < 7) (hi : i = 7 * c + k) : va_up (fB (va_up bls c g)) i v = fB (va_up bls c (va_up g k v)) := by
  subst hi
  funext j
  by_cases e : j = 7 * c + k
  · subst e; rw [va_up_self, fB_at hk, va_up_self, va_up_self]
  · rw [va_up_ne _ _ e]
    simp only [fB]
    by_cases e2 : j / 7 = c
    · subst e2; rw [va_up_self, va_up_self, va_up_ne _ _ (by omega)]
    · rw [va_up_ne _ _ e2, va_up_ne _ _ e2]
theorem up_id {α : Type} (f : Nat → α) (c : Nat) : va_up f c (f c) = f := by
  funext j
  by_cases e : j = c
  · rw [e, va_up_self]
  · rw [va_up_ne _ _ e]
/-- all but one stay -/
def oth {α : Type} (c : Nat) (f g : Nat → α) : Prop := ∀ j, j ≠ c → g j = f j
theorem oth_r {α : Type} {c : Nat} {f : Nat → α} : oth c f f := fun _ _ => rfl
theorem oth_u {α : Type} {c : Nat} {f g : Nat → α} {v : α} (h : oth c f g) : oth c f (va_up g c v) := fun j hj => by rw [va_up_ne _ _ hj]; exact h j hj
theorem oth_t {α : Type} {c : Nat} {f g k : Nat → α} (h : oth c f g) (h2 : oth c g k) : oth c f k := fun j hj => (h2 j hj).trans (h j hj)
def ftP (D : Nat → Nat) (U : Nat) (w : Nat → Nat) (e k : Nat) : Bool := decide (D (16 * e) = U) && ftA D w e k
theorem ftP_s (D : Nat → Nat) (U : Nat) (w : Nat → Nat) (e k : Nat) : ftP D U w e (k + 1) = (ftP D U w e k && ltB D w e k) := by simp [ftP, ftA, Bool.and_assoc]
/-! power -/
theorem pI_0 {le : Bool} {wl : Nat} (h : wl ≤ 1000) (hz : pI le wl = 0) : le = false ∧ wl = 0 := by
  cases le
  · exact ⟨rfl, by have := (nI_eq (a := wl) (b := 0) (by omega) (by omega)).mp (show nI wl = nI 0 from hz); exact this⟩
  · exact absurd (show (-1 : Int32) = 0 from hz) (by decide)
theorem pw_no {le : Bool} {wl : Nat} {wd : Int32} (h : wl ≤ 1000) (hz : pI le wl = 0) : pI le wl = pI le (wlW le wl) ∧ wd = wdW le wl wd ∧ okW le wl = false := by
  obtain ⟨rfl, rfl⟩ := pI_0 h hz
  exact ⟨rfl, rfl, rfl⟩
theorem pw_ok {le : Bool} {wl : Nat} {wd : Int32} (hz : ¬ pI le wl = 0) : wd + nI 1 = wdW le wl wd ∧ okW le wl = true := by
  have : okW le wl = true := by
    cases le
    · simp only [okW, Bool.false_or, decide_eq_true_eq]
      intro h; subst h; exact hz rfl
    · rfl
  exact ⟨by simp [wdW, this], this⟩
theorem pw_gt {le : Bool} {wl : Nat} (h : wl ≤ 1000) (hz : ¬ pI le wl ≤ 0) : pI le wl - nI 1 = pI le (wlW le wl) := by
  cases le
  · have h0 : 0 < wl := by
      rcases Nat.eq_zero_or_pos wl with q | q
      · subst q; exact absurd (by decide) hz
      · exact q
    show nI wl - nI 1 = nI (wl - 1)
    rw [pk_sub (by omega)]
  · exact absurd (show (-1 : Int32) ≤ 0 by decide) hz
theorem pw_le {le : Bool} {wl : Nat} (h : wl ≤ 1000) (h0 : ¬ pI le wl = 0) (hz : pI le wl ≤ 0) : pI le wl = pI le (wlW le wl) := by
  cases le
  · have : wl ≤ 0 := (nI_leI (b := 0) (by omega) (by omega)).mp hz
    have : wl = 0 := by omega
    subst this; exact absurd rfl h0
  · rfl
/-! the twin writes a record's bytes one by one -/
theorem row_funext {f g D : Nat → Nat} {j : Nat} (hf : ∀ i, (i < 16 * j ∨ 16 * j + 16 ≤ i) → f i = D i) (hg : ∀ i, (i < 16 * j ∨ 16 * j + 16 ≤ i) → g i = D i) (h0 : f (16 * j) = g (16 * j)) (h1 : ∀ k, k < 6 → f (16 * j + k + 1) = g (16 * j + k + 1)) (h7 : f (16 * j + 7) = g (16 * j + 7)) (h8 : f (16 * j + 8) = g (16 * j + 8)) (h9 : ∀ k, k < 7 → f (16 * j + k + 9) = g (16 * j + k + 9)) : f = g := by
  funext i
  by_cases h : i < 16 * j ∨ 16 * j + 16 ≤ i
  · rw [hf i h, hg i h]
  · have := row_split (P := fun r => f (16 * j + r) = g (16 * j + r)) h0 (fun k hk => h1 k hk) h7 h8 (fun k hk => h9 k hk) (i - 16 * j) (by omega)
    rwa [show 16 * j + (i - 16 * j) = i by omega] at this
theorem kpD_row {D : Nat → Nat} {j ct : Nat} {bl : Nat → Nat} : (∀ i, (i < 16 * j ∨ 16 * j + 16 ≤ i) → kpD D j bl ct i = D i) ∧ (∀ i, i < 8 → kpD D j bl ct (16 * j + i) = D (16 * j + i)) ∧ kpD D j bl ct (16 * j + 8) = ct ∧ ∀ k, k < 7 → kpD D j bl ct (16 * j + k + 9) = bl k :=
  ⟨fun i h => cpW_out h, fun i h => by simp only [kpD]; rw [cpW_in (by omega), pdR_lo h, gtR_in (by omega)], by simp only [kpD]; rw [cpW_in (by omega), pdR_8], fun k h => by simp only [kpD]; rw [show 16 * j + k + 9 = 16 * j + (k + 9) by omega, cpW_in (by omega), pdR_hi h]⟩
theorem nwD_row {D : Nat → Nat} {j U sn : Nat} {w : Nat → Nat} : (∀ i, (i < 16 * j ∨ 16 * j + 16 ≤ i) → nwD D j U w sn i = D i) ∧ nwD D j U w sn (16 * j) = U ∧ (∀ k, k < 6 → nwD D j U w sn (16 * j + k + 1) = w k) ∧ nwD D j U w sn (16 * j + 7) = sn ∧ nwD D j U w sn (16 * j + 8) = 0 ∧ ∀ k, k < 7 → nwD D j U w sn (16 * j + k + 9) = 0 :=
  ⟨fun i h => cpW_out h, by simp only [nwD]; rw [show 16 * j = 16 * j + 0 from rfl, cpW_in (by omega), pdR_lo (by omega), meR_0], fun k h => by simp only [nwD]; rw [show 16 * j + k + 1 = 16 * j + (k + 1) by omega, cpW_in (by omega), pdR_lo (by omega), meR_w h], by simp only [nwD]; rw [cpW_in (by omega), pdR_lo (by omega), meR_7], by simp only [nwD]; rw [cpW_in (by omega), pdR_8], fun k h => by simp only [nwD]; rw [show 16 * j + k + 9 = 16 * j + (k + 9) by omega, cpW_in (by omega), pdR_hi h]⟩
theorem kp_twin (D : Nat → Nat) (j ct : Nat) (bl : Nat → Nat) : va_cpy bl (va_up D (16 * j + 8) ct) 0 (16 * j + 9) 7 = kpD D j bl ct := by
  obtain ⟨a, b, c, d⟩ := kpD_row (D := D) (j := j) (ct := ct) (bl := bl)
  refine row_funext (D := D) (j := j) ?_ a ?_ ?_ ?_ ?_ ?_
  · intro i h; rw [pk_cpy_out (by omega), va_up_ne _ _ (by omega)]
  · rw [pk_cpy_out (by omega), va_up_ne _ _ (by omega)]; exact (b 0 (by omega)).symm
  · intro k h; rw [pk_cpy_out (by omega), va_up_ne _ _ (by omega), show 16 * j + k + 1 = 16 * j + (k + 1) by omega, b (k + 1) (by omega)]
  · rw [pk_cpy_out (by omega), va_up_ne _ _ (by omega), b 7 (by omega)]
  · rw [pk_cpy_out (by omega), va_up_self, c]
  · intro k h; rw [pk_cpy_in (by omega) (by omega), d k h]; congr 1; omega
theorem nw_twin (D : Nat → Nat) (j U sn : Nat) (w : Nat → Nat) : va_cpy (fun _ => 0) (va_up (va_cpy w (va_up D (16 * j) U) 0 (16 * j + 1) 6) (16 * j + 7) sn) 0 (16 * j + 8) 8 = nwD D j U w sn := by
  obtain ⟨a, b, c, d, e, f⟩ := nwD_row (D := D) (j := j) (U := U) (sn := sn) (w := w)
  refine row_funext (D := D) (j := j) ?_ a ?_ ?_ ?_ ?_ ?_
  · intro i h; rw [pk_cpy_out (by omega), va_up_ne _ _ (by omega), pk_cpy_out (by omega), va_up_ne _ _ (by omega)]
  · rw [pk_cpy_out (by omega), va_up_ne _ _ (by omega), pk_cpy_out (by omega), va_up_self, b]
  · intro k h; rw [pk_cpy_out (by omega), va_up_ne _ _ (by omega), pk_cpy_in (by omega) (by omega), c k h]; congr 1; omega
  · rw [pk_cpy_out (by omega), va_up_self, d]
  · rw [pk_cpy_in (by omega) (by omega), e]
  · intro k h; rw [pk_cpy_in (by omega) (by omega), f k h]
def manI (n : Nat) (asks only : Bool) : Int32 := if n = 0 then -1 else if asks && only then -3 else nI n
/-- an entry that fits and is read only, below n -/
theorem anyB_cnt {P : Nat → Bool} {Q : Nat → Bool} : ∀ n, anyB (fun j => Q j && P j) n = true → ¬ cnt P n = 0
  | 0, h => by simp [anyB] at h
  | n + 1, h => by
    simp only [anyB, Bool.or_eq_true, Bool.and_eq_true] at h
    simp only [cnt]
    rcases h with h | ⟨-, h⟩
    · have := anyB_cnt n h; omega
    · simp [h]
