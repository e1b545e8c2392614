def hasN (op : Bool) (st ct pl : Nat) (bl : Nat → Nat) (wh : Nat) : Nat := if op then (if wh = 0 then 1 else if wh = 1 then st else if wh = 2 then ct else if wh = 3 then pl else bl (wh - 4)) else 0
def mTold (D : Nat → Nat) (T : Nat → Bool) (wd : Int32) (wh : Nat) : Int32 := if wh = 0 then nI (cnt (ntB T) 64) else if wh = 1 then nI (cnt (mtB (tlE D (fun _ => 0) 32)) 64) else if wh = 2 then nI (cnt (frB D) 32) else wd
theorem tlB_congr (D : Nat → Nat) (en : Nat) {f g : Nat → Nat} (h : ∀ b, b < 64 → f b = g b) : ∀ k b, b < 64 → tlB D en f k b = tlB D en g k b
  | 0, b, hb => h b hb
  | k + 1, b, hb => by
    simp only [tlB]
    by_cases e : b = D (16 * en + k + 9) % 64
    · subst e; rw [va_up_self, va_up_self, tlB_congr D en h k _ hb]
    · rw [va_up_ne _ _ e, va_up_ne _ _ e, tlB_congr D en h k b hb]
theorem tlE_congr (D : Nat → Nat) {f g : Nat → Nat} (h : ∀ b, b < 64 → f b = g b) : ∀ e b, b < 64 → tlE D f e b = tlE D g e b
  | 0, b, hb => h b hb
  | e + 1, b, hb => by
    simp only [tlE]; split
    · exact tlE_congr D h e b hb
    · exact tlB_congr D e (tlE_congr D h e) 7 b hb
theorem cnt_congr {P Q : Nat → Bool} : ∀ n, (∀ b, b < n → P b = Q b) → cnt P n = cnt Q n
  | 0, _ => rfl
  | n + 1, h => by simp only [cnt]; rw [cnt_congr n (fun b hb => h b (by omega)), h n (by omega)]
theorem told_1 (D tl : Nat → Nat) : cnt (mtB (tlE D (zzN tl) 32)) 64 = cnt (mtB (tlE D (fun _ => 0) 32)) 64 :=
  cnt_congr 64 (fun b hb => by simp only [mtB]; rw [tlE_congr D (g := fun _ => 0) (fun b hb => zzN_0 hb) 32 b hb])
def nbF (nm : Int64) (k : Nat) : Nat := (nm >>> ((nI (8 * k)).toInt64 &&& 63)).toInt32.toBitVec.toNat % 128
def bfR (bf : Nat → Nat) (h : Nat) : Nat → Int64
  | 0 => 0
  | n + 1 => (bfR bf h n <<< ((nI 8).toInt64 &&& 63)) ||| (nI (bf (8 * h + (7 - n)))).toInt64
section BASE3
variable {p : Program} {l : Launch} {e : Env} {R : Room} {s : State} {m : MethodId} {args : Array Value} {below : List Frame} {meth : Method} {c : Code} {H : Heap} {locs : List Loc} {cells slots : Nat} {Q : State → Prop}
variable {cc : ByteArray} {pc : Nat} {ls : Array Slot} {rest : List Value}
theorem nr_iand127i {x : Int32} (r : Nat) (hr9 : x.toBitVec.toNat % 128 = r) (hx : p.tables.exec = Jvm.exec) (hb : c.code = cc) (hdg : decode cc pc = .ok (.iand, 1)) (k : W p l e R s m args below meth c H locs cells slots Q (F0 m (pc + 1) ls (.int (nI r) :: rest))) : W p l e R s m args below meth c H locs cells slots Q (F0 m pc ls (.int (nI 127) :: .int x :: rest)) := by
  refine lv_iand hx hb hdg ?_
  rw [pk_and x (m := nI 127) 7 (by decide), show x.toBitVec.toNat % 2 ^ 7 = r from hr9]; exact k
end BASE3
