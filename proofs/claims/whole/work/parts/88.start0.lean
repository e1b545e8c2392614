def v4 (x0 x1 x2 x3 : Nat) : Nat → Nat := fun i => if i = 0 then x0 else if i = 1 then x1 else if i = 2 then x2 else x3
def nm0 : Nat → Nat → Nat := fun i => if i < 4 then va_cpy (fun _ => 32) (fun _ => 0) 0 0 6 else fun _ => 0
theorem nm0_lt : ∀ i j, nm0 i j < 128 := by
  intro i j
  simp only [nm0]
  by_cases h : i < 4
  · rw [if_pos h]; exact cpy_lt (fun _ => by omega) (fun _ => by omega) _ _ _ j
  · rw [if_neg h]; omega
theorem nm0_f : va_cpy (fun _ => 32) (fun _ => 0) 0 0 24 = fN nm0 := by
  funext j
  simp only [fN, nm0]
  by_cases h : j < 24
  · rw [if_pos (by omega)]
    simp only [va_cpy]
    rw [if_pos (by omega), if_pos (by omega)]
  · rw [if_neg (by omega)]
    simp only [va_cpy]
    rw [if_neg (by omega)]
theorem fE_lt {D : Nat → Nat} {k : Nat} (h : ∀ j, D j < 256) : ∀ j, fE D k j < 256 := by
  intro j
  simp only [fE]; split
  · omega
  · exact h j
theorem zn_in : ∀ w ∈ zn_w, w ∈ lw_tbl := by decide +kernel
theorem zxw_in : ∀ w ∈ zxw, w ∈ lw_tbl := by decide +kernel
theorem arr_kn {args : Array Value} {s : State} {ty : FieldType} (h : (Cond.arrayClass ty).before args s = true) : ∃ cA, ArrOfT s cA ty ∧ s.vm.findClass ("[" ++ ty.toString) = some cA := by
  obtain ⟨cA, kA, comp, h1, h2, h3⟩ := Cond.arrayClass_spec h
  exact ⟨cA, fun n z => ⟨fun k h => (by cases h), kA, h2, comp, h3⟩, h1⟩
