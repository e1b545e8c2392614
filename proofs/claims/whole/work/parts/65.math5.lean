section TW5
variable {p : Program} {l : Launch} {e : Env} {R : Room} {s : State} {m : MethodId} {args : Array Value} {below : List Frame} {meth : Method} {c : Code} {H : Heap} {locs : List Loc} {cells slots : Nat} {Q : State → Prop}
variable {cc : ByteArray} {pc : Nat} {ls : Array Slot} {rest : List Value}
theorem nr_ofi {x : Int32} (n : Nat) (h : x = nI n) (k : W p l e R s m args below meth c H locs cells slots Q (F0 m pc ls (.int (nI n) :: rest))) : W p l e R s m args below meth c H locs cells slots Q (F0 m pc ls (.int x :: rest)) := by rw [h]; exact k
end TW5
theorem bd_oth {f g : Nat → Nat} {B c : Nat} (hf : ∀ j, f j < B) (ho : oth c f g) (hc : g c < B) : ∀ j, g j < B := fun j => by
  by_cases e : j = c
  · rw [e]; exact hc
  · rw [ho j e]; exact hf j
theorem bd_othL {f g : Nat → Nat} {B c : Nat} (hf : ∀ j, f j ≤ B) (ho : oth c f g) (hc : g c ≤ B) : ∀ j, g j ≤ B := fun j => by
  by_cases e : j = c
  · rw [e]; exact hc
  · rw [ho j e]; exact hf j
theorem bd_oth2 {f g : Nat → Nat → Nat} {B c : Nat} (hf : ∀ i j, f i j < B) (ho : oth c f g) (hc : ∀ j, g c j < B) : ∀ i j, g i j < B := fun i j => by
  by_cases e : i = c
  · rw [e]; exact hc j
  · rw [ho i e]; exact hf i j
theorem nb_twin (nm : Int64) (k : Nat) : ((nm >>> ((nI (8 * k)).toInt64 &&& 63)) &&& 127).toInt32 = nI (nbF nm k) := by
  simp only [nbF]
  rw [Int64.toInt32_and, show (127 : Int64).toInt32 = nI 127 from by decide]
  exact pk_and _ (m := nI 127) 7 (by decide)
theorem tw_cl {T : Nat → Bool} (h8 : ∀ b, b < 8 → T b = true) : va_cpy (fun b => decide (b < 8)) T 0 0 64 = clT T := by
  funext j
  simp only [clT]
  by_cases a : j < 8
  · rw [pk_cpy_in (by omega) (by omega), pk_cpy_out (by omega), h8 j a]; simp; omega
  by_cases b : j < 64
  · rw [pk_cpy_in (by omega) (by omega), pk_cpy_in (by omega) (by omega)]; simp; omega
  · rw [pk_cpy_out (by omega), pk_cpy_out (by omega)]
def tkX (D : Nat → Nat) (en : Nat) (T : Nat → Bool) (k : Nat) : Nat → Bool := if frB D en then T else tkB D en T k
theorem tkB_true {D : Nat → Nat} {en : Nat} {T : Nat → Bool} {b : Nat} (h : T b = true) : ∀ k, tkB D en T k b = true
  | 0 => h
  | k + 1 => by
    simp only [tkB]
    by_cases e : b = D (16 * en + k + 9) % 64
    · rw [← e, va_up_self]
    · rw [va_up_ne _ _ e]; exact tkB_true h k
theorem tkE_true {D : Nat → Nat} {T : Nat → Bool} {b : Nat} (h : T b = true) : ∀ e, tkE D T e b = true
  | 0 => h
  | e + 1 => by
    simp only [tkE]; split
    · exact tkE_true h e
    · exact tkB_true (tkE_true h e) 7
theorem clT_lo {T : Nat → Bool} {b : Nat} (h8 : ∀ b, b < 8 → T b = true) (hb : b < 8) : clT T b = true := by simp only [clT]; rw [pk_cpy_out (by omega)]; exact h8 b hb
theorem tkX_f {D : Nat → Nat} {en : Nat} {T : Nat → Bool} {k : Nat} (h : frB D en = true) : tkX D en T k = tkX D en T (k + 1) := by simp [tkX, h]
theorem tkX_0 {D : Nat → Nat} {en : Nat} {T : Nat → Bool} {k : Nat} (h : frB D en = false) (h0 : D (16 * en + k + 9) = 0) (hT : T 0 = true) : tkX D en T k = tkX D en T (k + 1) := by
  simp only [tkX, h, tkB, h0]
  exact (up_t (tkB_true hT k)).symm
theorem tkX_b {D : Nat → Nat} {en : Nat} {T : Nat → Bool} {k i : Nat} (h : frB D en = false) (hi : i = D (16 * en + k + 9) % 64) : va_up (tkX D en T k) i true = tkX D en T (k + 1) := by
  subst hi; simp [tkX, h, tkB]
theorem tkX_e {D : Nat → Nat} {en : Nat} {T : Nat → Bool} : tkX D en (tkE D T en) 7 = tkE D T (en + 1) := by simp only [tkX, tkE]
