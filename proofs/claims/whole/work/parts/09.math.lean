/-! what the class and its twin compute, as functions -/
def frB (D : Nat → Nat) (e : Nat) : Bool := decide (15 < D (16 * e))
def roB (D : Nat → Nat) (e : Nat) : Bool := decide (127 < D (16 * e + 5))
def ltB (D w : Nat → Nat) (e k : Nat) : Bool := decide (w k = 63 ∨ w k = D (16 * e + k + 1) % 128)
def ftA (D w : Nat → Nat) (e : Nat) : Nat → Bool
  | 0 => true
  | k + 1 => ftA D w e k && ltB D w e k
def ftB (D : Nat → Nat) (U : Nat) (w : Nat → Nat) (e : Nat) : Bool := decide (D (16 * e) = U) && ftA D w e 6
def fsB (D : Nat → Nat) (U : Nat) (w : Nat → Nat) (sn : Nat) (e : Nat) : Bool := decide (D (16 * e + 7) = sn) && ftB D U w e
def hrB (D : Nat → Nat) (U : Nat) (w : Nat → Nat) (e : Nat) : Bool := roB D e && ftB D U w e
def enN (D : Nat → Nat) (e : Nat) : Nat := 28 * D (16 * e + 7) + D (16 * e + 8)
def ntB (T : Nat → Bool) (b : Nat) : Bool := !T b
/-- the first from e on, n to look at -/
def fnd (P : Nat → Bool) : Nat → Nat → Int32
  | 0, _ => -1
  | n + 1, e => if P e then nI e else fnd P n (e + 1)
def hmI (c : Nat) : Int32 := if c = 0 then -1 else nI c
/-- how many below n -/
def cnt (P : Nat → Bool) : Nat → Nat
  | 0 => 0
  | n + 1 => cnt P n + (if P n then 1 else 0)
/-- is there one below n -/
def anyB (P : Nat → Bool) : Nat → Bool
  | 0 => false
  | n + 1 => anyB P n || P n
/-- the greatest below n -/
def gre (P : Nat → Bool) (f : Nat → Nat) : Nat → Nat
  | 0 => 0
  | n + 1 => if P n then max (gre P f n) (f n) else gre P f n
theorem ftA_no {D w : Nat → Nat} {e k : Nat} (h : ltB D w e k = false) : ∀ n, k < n → ftA D w e n = false
  | 0, hn => absurd hn (by omega)
  | n + 1, hn => by
    by_cases e1 : k = n
    · subst e1; simp [ftA, h]
    · simp [ftA, ftA_no h n (by omega)]
theorem fnd_at {P : Nat → Bool} {N k : Nat} (hk : k < N) : fnd P (N - k) k = if P k then nI k else fnd P (N - (k + 1)) (k + 1) := by
  rw [show N - k = (N - (k + 1)) + 1 by omega]; rfl
theorem fnd_end {P : Nat → Bool} (N : Nat) : fnd P (N - N) N = -1 := by rw [Nat.sub_self]; rfl
theorem fnd_cases (P : Nat → Bool) : ∀ n e, fnd P n e = -1 ∨ ∃ j, e ≤ j ∧ j < e + n ∧ P j = true ∧ fnd P n e = nI j
  | 0, e => Or.inl rfl
  | n + 1, e => by
    by_cases h : P e = true
    · exact Or.inr ⟨e, Nat.le_refl e, by omega, h, by simp [fnd, h]⟩
    · rcases fnd_cases P n (e + 1) with q | ⟨j, h1, h2, h3, h4⟩
      · exact Or.inl (by simp [fnd, h, q])
      · exact Or.inr ⟨j, by omega, by omega, h3, by simp [fnd, h, h4]⟩
theorem cnt_le (P : Nat → Bool) : ∀ n, cnt P n ≤ n
  | 0 => Nat.le_refl 0
  | n + 1 => by have := cnt_le P n; simp only [cnt]; split <;> omega
theorem anyB_yes {P : Nat → Bool} {k : Nat} (h : P k = true) : ∀ n, k < n → anyB P n = true
  | 0, hn => absurd hn (by omega)
  | n + 1, hn => by
    by_cases e1 : k = n
    · subst e1; simp [anyB, h]
    · simp [anyB, anyB_yes h n (by omega)]
theorem bI_one {b : Bool} (h : b = true) : nI 1 = bI b := by rw [h]; rfl
theorem bI_zero {b : Bool} (h : b = false) : nI 0 = bI b := by rw [h]; rfl
theorem gre_le (P : Nat → Bool) (f : Nat → Nat) (B : Nat) (hf : ∀ j, f j ≤ B) : ∀ n, gre P f n ≤ B
  | 0 => Nat.zero_le _
  | n + 1 => by
    have h1 := gre_le P f B hf n
    have h2 := hf n
    simp only [gre]; split <;> omega
/-! arrays that grow by a loop -/
theorem cpy_0 {α : Type} (f g : Nat → α) (sp dp : Nat) : va_cpy f g sp dp 0 = g := by
  funext j
  exact pk_cpy_out (by omega)
theorem cpy_up {α : Type} {f g : Nat → α} {sp dp k i : Nat} {v : α} (hi : i = dp + k) (hv : v = f (sp + k)) : va_up (va_cpy f g sp dp k) i v = va_cpy f g sp dp (k + 1) := by
  subst hi; subst hv
  funext j
  by_cases e : j = dp + k
  · subst e
    rw [va_up_self, pk_cpy_in (by omega) (by omega)]
    congr 1; omega
  · rw [va_up_ne _ _ e]
    by_cases h : dp ≤ j ∧ j < dp + k
    · rw [pk_cpy_in h.1 h.2, pk_cpy_in h.1 (by omega)]
    · rw [pk_cpy_out (by omega), pk_cpy_out (by omega)]
/-- a record's bytes on the disk -/
def cpW (row D : Nat → Nat) (rn : Nat) : Nat → Nat := va_cpy row D 0 (16 * rn) 16
/-- a write of a record, as long as power lasts -/
def mPut (le : Bool) (wl : Nat) (wd : Int32) (D : Nat → Nat) (rn : Nat) (row : Nat → Nat) : Bool × (Nat → Nat) × Nat × Int32 :=
  if le = true then (true, cpW row D rn, wl, wd + nI 1) else if wl = 0 then (false, D, wl, wd) else (true, cpW row D rn, wl - 1, wd + nI 1)
def clT (T : Nat → Bool) : Nat → Bool := va_cpy (fun _ => false) T 0 8 56
def lsF (T : Nat → Bool) : Nat → Nat → Int32 × (Nat → Bool)
  | 0, _ => (-1, T)
  | n + 1, b => if T b then lsF T n (b + 1) else (nI b, va_up T b true)
theorem lsF_at {T : Nat → Bool} {N k : Nat} (hk : k < N) : lsF T (N - k) k = if T k then lsF T (N - (k + 1)) (k + 1) else (nI k, va_up T k true) := by
  rw [show N - k = (N - (k + 1)) + 1 by omega]; rfl
theorem lsF_end {T : Nat → Bool} (N : Nat) : lsF T (N - N) N = (-1, T) := by rw [Nat.sub_self]; rfl
theorem lsF_cases (T : Nat → Bool) : ∀ n b, lsF T n b = (-1, T) ∨ ∃ j, b ≤ j ∧ j < b + n ∧ T j = false ∧ lsF T n b = (nI j, va_up T j true)
  | 0, b => Or.inl rfl
  | n + 1, b => by
    by_cases h : T b = true
    · rcases lsF_cases T n (b + 1) with q | ⟨j, h1, h2, h3, h4⟩
      · exact Or.inl (by simp [lsF, h, q])
      · exact Or.inr ⟨j, by omega, by omega, h3, by simp [lsF, h, h4]⟩
    · exact Or.inr ⟨b, Nat.le_refl b, by omega, by simpa using h, by simp [lsF, h]⟩
/-- rows that are drafted -/
def pdR (bl : Nat → Nat) (ct : Nat) (dr : Nat → Nat) : Nat → Nat := va_cpy bl (va_up dr 8 ct) 0 9 7
def meR (U : Nat) (w : Nat → Nat) (st : Nat) (dr : Nat → Nat) : Nat → Nat := va_up (va_cpy w (va_up dr 0 U) 0 1 6) 7 st
def gtR (D : Nat → Nat) (rn : Nat) (dr : Nat → Nat) : Nat → Nat := va_cpy D dr (16 * rn) 0 16
def nmR (D : Nat → Nat) (en : Nat) (w dr : Nat → Nat) : Nat → Nat := va_up (va_cpy w (gtR D en dr) 0 1 6) 5 (w 4 + D (16 * en + 5) / 128 * 128)
def gdR (D : Nat → Nat) (en : Nat) (gd : Bool) (dr : Nat → Nat) : Nat → Nat := va_up (gtR D en dr) 5 (D (16 * en + 5) % 128 + (if gd then 128 else 0))
/-- how many places tell each block -/
def tlB (D : Nat → Nat) (en : Nat) (tl : Nat → Nat) : Nat → Nat → Nat
  | 0 => tl
  | k + 1 => va_up (tlB D en tl k) (D (16 * en + k + 9) % 64) (tlB D en tl k (D (16 * en + k + 9) % 64) + 1)
def tlE (D tl : Nat → Nat) : Nat → Nat → Nat
  | 0 => tl
  | e + 1 => if frB D e then tlE D tl e else tlB D e (tlE D tl e) 7
def zzN (tl : Nat → Nat) : Nat → Nat := va_cpy (fun _ => 0) tl 0 0 64
def mtB (tl : Nat → Nat) (b : Nat) : Bool := decide (8 ≤ b) && decide (1 < tl b)
theorem tlB_le (D : Nat → Nat) (en : Nat) (tl : Nat → Nat) (b : Nat) : ∀ k, tlB D en tl k b ≤ tl b + k
  | 0 => Nat.le_refl _
  | k + 1 => by
    have h := tlB_le D en tl b k
    simp only [tlB]
    by_cases e : b = D (16 * en + k + 9) % 64
    · subst e; rw [va_up_self]; omega
    · rw [va_up_ne _ _ e]; omega
theorem tlE_le (D tl : Nat → Nat) (b : Nat) : ∀ e, tlE D tl e b ≤ tl b + 7 * e
  | 0 => Nat.le_refl _
  | e + 1 => by
    have h := tlE_le D tl b e
    simp only [tlE]
    split
    · omega
    · have := tlB_le D e (tlE D tl e) b 7; omega
theorem zzN_0 {tl : Nat → Nat} {b : Nat} (h : b < 64) : zzN tl b = 0 := pk_cpy_in (Nat.zero_le b) (by omega)
