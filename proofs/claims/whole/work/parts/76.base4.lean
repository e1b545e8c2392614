section LW
variable {p : Program} {l : Launch} {e : Env} {R : Room} {s : State} {m : MethodId} {args : Array Value} {below : List Frame} {meth : Method} {c : Code} {H : Heap} {locs : List Loc} {cells slots : Nat} {Q : State → Prop} {ls : Array Slot} {rest : List Value} {pc : Nat} {cc : ByteArray} {dd : va_G} {cI cZ cR cJ : ClassId} {ws : va_W} {H0 : Heap} {A : Nat → Prop}
theorem nr_last {a : Nat} {x : Int64} {f : Nat → Int64} (hx : p.tables.exec = Jvm.exec) (hb : c.code = cc) (hK : kq dd cI cZ cR cJ s) (hP : va_P dd vwCl ws H) (hD : va_D A ws) (hS : va_S A H0 H locs) (q0 : Nat) (ha : ws[q0]? = some (a, .inl (cJ, 1, .inr (.inl f)))) (hdg : decode cc pc = .ok (.lastore, 1))
    (kk : ∀ (H1 : Heap) (locs1 : List Loc), va_P dd vwCl (ws.set q0 (a, .inl (cJ, 1, .inr (.inl (vp_updL f 0 x))))) H1 → va_D A (ws.set q0 (a, .inl (cJ, 1, .inr (.inl (vp_updL f 0 x))))) → va_S A H0 H1 locs1 → W p l e R s m args below meth c H1 locs1 cells slots Q (F0 m (pc + 1) ls rest)) : W p l e R s m args below meth c H locs cells slots Q (F0 m pc ls (.long x :: .int (nI 0) :: .ref a :: rest)) := by
  refine va_last hx hb hK.1 hP hD hS q0 3 ha rfl (vp_in_nI (by decide) (by decide)) hdg ?_
  rw [nI_clamp (by omega)]; exact kk
theorem nr_lald {a : Nat} {f : Nat → Int64} (hx : p.tables.exec = Jvm.exec) (hb : c.code = cc) (hK : kq dd cI cZ cR cJ s) (hP : va_P dd vwCl ws H) (q0 : Nat) (ha : ws[q0]? = some (a, .inl (cJ, 1, .inr (.inl f)))) (hdg : decode cc pc = .ok (.laload, 1))
    (kk : W p l e R s m args below meth c H locs cells slots Q (F0 m (pc + 1) ls (.long (f 0) :: rest))) : W p l e R s m args below meth c H locs cells slots Q (F0 m pc ls (.int (nI 0) :: .ref a :: rest)) := by
  refine va_lald hx hb hK.1 hP q0 3 ha rfl (vp_in_nI (by decide) (by decide)) hdg ?_
  rw [nI_clamp (by omega)]; exact kk
end LW
