section NEWS
variable {p : Program} {l : Launch} {e : Env} {R : Room} {s : State} {m : MethodId} {args : Array Value} {below : List Frame} {meth : Method} {c : Code} {H : Heap} {locs : List Loc} {cells slots : Nat} {Q : State → Prop} {ls : Array Slot} {rest : List Value} {pc : Nat} {cc : ByteArray} {dd : va_G} {cI cZ cR cJ : ClassId} {ws : va_W} {H0 : Heap} {A : Nat → Prop}
theorem nr_newI (N : Nat) (hx : p.tables.exec = Jvm.exec) (hb : c.code = cc) (harr : (Cond.arrayClass .int).before args s = true) (hK : kq dd cI cZ cR cJ s) (hP : va_P dd vwCl ws H) (hD : va_D A ws) (hS : va_S A H0 H locs) (hA : ∀ q : Nat, H0.size ≤ q → A q) (hN : N ≤ 100000) (hcells : cells + 1 ≤ R.cells) (hslots : slots + N ≤ R.slots) (hdg : decode cc pc = .ok (.newarray .int, 2))
    (kk : ∀ (q : Nat) (H1 : Heap), va_P dd vwCl (ws ++ [(q, .inl (cI, N, .inl (aN (fun _ => 0))))]) H1 → va_D A (ws ++ [(q, .inl (cI, N, .inl (aN (fun _ => 0))))]) → va_S A H0 H1 locs → W p l e R s m args below meth c H1 locs (cells + 1) (slots + N) Q (F0 m (pc + 2) ls (.ref q :: rest))) : W p l e R s m args below meth c H locs cells slots Q (F0 m pc ls (.int (nI N) :: rest)) := by
  refine va_newa (atype := .int) (ty := .int) hx hb harr rfl hK.1 hP hD hS hA (a0 := (N, .inl (aN (fun _ => 0)))) (fun cA => by rw [vp_cell_i]; rfl) (nI_pos (by omega)) (nI_clamp (by omega)) (by simp [componentBytes]; omega) hcells hslots hdg (fun q cA H1 hK1 hP1 hD1 hS1 => ?_)
  have h1 : va_RA s cA .int := (hK1.2 4 (cA, .int) rfl).2
  have h2 : va_RA s cI .int := (hK1.2 0 (cI, .int) rfl).2
  cases Option.some.inj (Eq.trans (Eq.symm h1) h2)
  exact kk q H1 hP1 hD1 hS1
theorem nr_newZ (N : Nat) (hx : p.tables.exec = Jvm.exec) (hb : c.code = cc) (harr : (Cond.arrayClass .boolean).before args s = true) (hK : kq dd cI cZ cR cJ s) (hP : va_P dd vwCl ws H) (hD : va_D A ws) (hS : va_S A H0 H locs) (hA : ∀ q : Nat, H0.size ≤ q → A q) (hN : N ≤ 100000) (hcells : cells + 1 ≤ R.cells) (hslots : slots + N ≤ R.slots) (hdg : decode cc pc = .ok (.newarray .boolean, 2))
    (kk : ∀ (q : Nat) (H1 : Heap), va_P dd vwCl (ws ++ [(q, .inl (cZ, N, .inl (aB (fun _ => false))))]) H1 → va_D A (ws ++ [(q, .inl (cZ, N, .inl (aB (fun _ => false))))]) → va_S A H0 H1 locs → W p l e R s m args below meth c H1 locs (cells + 1) (slots + N) Q (F0 m (pc + 2) ls (.ref q :: rest))) : W p l e R s m args below meth c H locs cells slots Q (F0 m pc ls (.int (nI N) :: rest)) := by
  refine va_newa (atype := .boolean) (ty := .boolean) hx hb harr rfl hK.1 hP hD hS hA (a0 := (N, .inl (aB (fun _ => false)))) (fun cA => by rw [vp_cell_i]; rfl) (nI_pos (by omega)) (nI_clamp (by omega)) (by simp [componentBytes]; omega) hcells hslots hdg (fun q cA H1 hK1 hP1 hD1 hS1 => ?_)
  have h1 : va_RA s cA .boolean := (hK1.2 4 (cA, .boolean) rfl).2
  have h2 : va_RA s cZ .boolean := (hK1.2 1 (cZ, .boolean) rfl).2
  cases Option.some.inj (Eq.trans (Eq.symm h1) h2)
  exact kk q H1 hP1 hD1 hS1
theorem nr_newJ (N : Nat) (hx : p.tables.exec = Jvm.exec) (hb : c.code = cc) (harr : (Cond.arrayClass .long).before args s = true) (hK : kq dd cI cZ cR cJ s) (hP : va_P dd vwCl ws H) (hD : va_D A ws) (hS : va_S A H0 H locs) (hA : ∀ q : Nat, H0.size ≤ q → A q) (hN : N ≤ 100000) (hcells : cells + 1 ≤ R.cells) (hslots : slots + N ≤ R.slots) (hdg : decode cc pc = .ok (.newarray .long, 2))
    (kk : ∀ (q : Nat) (H1 : Heap), va_P dd vwCl (ws ++ [(q, .inl (cJ, N, .inr (.inl (fun _ => 0))))]) H1 → va_D A (ws ++ [(q, .inl (cJ, N, .inr (.inl (fun _ => 0))))]) → va_S A H0 H1 locs → W p l e R s m args below meth c H1 locs (cells + 1) (slots + N) Q (F0 m (pc + 2) ls (.ref q :: rest))) : W p l e R s m args below meth c H locs cells slots Q (F0 m pc ls (.int (nI N) :: rest)) := by
  refine va_newa (atype := .long) (ty := .long) hx hb harr rfl hK.1 hP hD hS hA (a0 := (N, .inr (.inl (fun _ => 0)))) (fun cA => by rw [vp_cell_l]; rfl) (nI_pos (by omega)) (nI_clamp (by omega)) (by simp [componentBytes]; omega) hcells hslots hdg (fun q cA H1 hK1 hP1 hD1 hS1 => ?_)
  have h1 : va_RA s cA .long := (hK1.2 4 (cA, .long) rfl).2
  have h2 : va_RA s cJ .long := (hK1.2 3 (cJ, .long) rfl).2
  cases Option.some.inj (Eq.trans (Eq.symm h1) h2)
  exact kk q H1 hP1 hD1 hS1
theorem nr_newR (N : Nat) {own : String} {index : Nat} (hx : p.tables.exec = Jvm.exec) (hb : c.code = cc) (hown : s.vm.findClass own = some m.cls) (hcl : (Cond.classLink own index "RecordSystem$Control").before args s = true) (hover : (Cond.arrayOver (.object "RecordSystem$Control")).before args s = true) (hK : kq dd cI cZ cR cJ s) (hP : va_P dd vwCl ws H) (hD : va_D A ws) (hS : va_S A H0 H locs) (hA : ∀ q : Nat, H0.size ≤ q → A q) (hN : N ≤ 100000) (hcells : cells + 1 ≤ R.cells) (hslots : slots + N ≤ R.slots) (hdg : decode cc pc = .ok (.anewarray index, 3))
    (kk : ∀ (q : Nat) (H1 : Heap), va_P dd vwCl (ws ++ [(q, .inl (cR, N, .inr (.inr (.inr (.inr (fun _ => none))))))]) H1 → va_D A (ws ++ [(q, .inl (cR, N, .inr (.inr (.inr (.inr (fun _ => none))))))]) → va_S A H0 H1 locs → W p l e R s m args below meth c H1 locs (cells + 1) (slots + N) Q (F0 m (pc + 3) ls (.ref q :: rest))) : W p l e R s m args below meth c H locs cells slots Q (F0 m pc ls (.int (nI N) :: rest)) := by
  refine va_newq (C := "RecordSystem$Control") (N' := N) hx hb hown hcl (va_AO.of hover) hK.1 hP hD hS hA (nI_pos (by omega)) (nI_clamp (by omega)) (by omega) hcells hslots hdg (fun q cA H1 hK1 hP1 hD1 hS1 => ?_)
  have h1 : va_RA s cA (.object "RecordSystem$Control") := (hK1.2 4 (cA, .object "RecordSystem$Control") rfl).2
  have h2 : va_RA s cR (.object "RecordSystem$Control") := (hK1.2 2 (cR, .object "RecordSystem$Control") rfl).2
  obtain ⟨_, _, -, -, -, g1⟩ := h1
  obtain ⟨_, _, -, -, -, g2⟩ := h2
  cases Option.some.inj (g1.symm.trans g2)
  exact kk q H1 hP1 hD1 hS1
theorem nr_astR {a n k v ci : Nat} {vs : List Value} {f : Nat → Option Nat} (hx : p.tables.exec = Jvm.exec) (hb : c.code = cc) (hK : kq dd cI cZ cR cJ s) (hP : va_P dd vwCl ws H) (hD : va_D A ws) (hS : va_S A H0 H locs) (q0 qk : Nat) (ha : ws[q0]? = some (a, .inl (cR, n, .inr (.inr (.inr (.inr f)))))) (hv : ws[qk]? = some (v, .inr (1, vs))) (hk : k < n) (hn : n < 2 ^ 31) (hdg : decode cc pc = .ok (.aastore, 1))
    (kk : ∀ (H1 : Heap) (locs1 : List Loc), va_P dd vwCl (ws.set q0 (a, .inl (cR, n, .inr (.inr (.inr (.inr (va_up f k (some v)))))))) H1 → va_D A (ws.set q0 (a, .inl (cR, n, .inr (.inr (.inr (.inr (va_up f k (some v)))))))) → va_S A H0 H1 locs1 → W p l e R s m args below meth c H1 locs1 cells slots Q (F0 m (pc + 1) ls rest)) : W p l e R s m args below meth c H locs cells slots Q (F0 m pc ls (.ref v :: .int (nI k) :: .ref a :: rest)) := by
  refine va_astq hx hb hK.1 hP hD hS q0 2 qk 1 ha (r := (RX1, TX1, 7)) rfl hv rfl (vp_in_nI hk hn) hdg ?_
  rw [nI_clamp (by omega)]; exact kk
end NEWS
/-- the first byte of the first k entries is that of a free entry -/
def fE (D : Nat → Nat) (k : Nat) : Nat → Nat := fun j => if j % 16 = 0 ∧ j / 16 < k then 229 else D j
theorem fE_0 (D : Nat → Nat) : fE D 0 = D := by
  funext j
  simp [fE]
theorem fE_up (D : Nat → Nat) (k i : Nat) (hi : i = 16 * k) : va_up (fE D k) i 229 = fE D (k + 1) := by
  funext j
  subst hi
  unfold va_up fE
  by_cases h : j = 16 * k
  · subst h
    rw [if_pos rfl, if_pos (by omega)]
  · rw [if_neg h]
    by_cases h2 : j % 16 = 0 ∧ j / 16 < k
    · rw [if_pos h2, if_pos (by omega)]
    · rw [if_neg h2, if_neg (by omega)]
/-! the constructor that makes an array of references: one word more at its start -/
def qmo (dd : va_G) (cI cZ cR cJ : ClassId) (sz : Nat) (ws : va_W) (U : State) : Prop := qm dd cI cZ cR cJ sz ws U ∧ va_AO "RecordSystem$Control" U
section AO
variable {l : Launch} {s : State} {H : Heap} {cc : ByteArray} {dd : va_G} {cI cZ cR cJ : ClassId} {ws wc : va_W} {A : Nat → Prop}
theorem mk_mutO {y : MethodName} {wl wl' : List Cond} {rm : Room} {maxL : Nat} {ret : Option FieldType} {vs : List Value} {sz : Nat} {Qf : (Nat → Prop) → Array Value → State → Outcome → State → Prop} {mc ms : Nat}
    (hy : plainName y.cls = true) (hw : wl = Cond.code y cc maxL ret :: wl') (hn : (lg_sl vs).length ≤ maxL)
    (body : ∀ (p : Program) (e : Env) (s : State) (m : MethodId) (below : List Frame) (meth : Method) (c : Code) (A : Nat → Prop), p.tables.exec = Jvm.exec → c.code = cc → meth.sig.returnType = ret → (∀ w ∈ wl, w.before vs.toArray s = true) → s.vm.findClass y.cls = some m.cls → meth.locks = false → c.maxLocals = maxL → (y.name = "<init>" → meth.name = "<init>") → va_AO "RecordSystem$Control" s →
      va_P dd vwCl ws s.heap → va_D A ws → (∀ q : Nat, s.heap.size ≤ q → A q) → va_S A s.heap s.heap [] → kq dd cI cZ cR cJ s →
      ∀ ls : Array Slot, lv_has ls maxL (lv_args 0 vs) → W p l e rm s m vs.toArray below meth c s.heap [] 0 0 (MQ below (Qf A) vs.toArray s mc ms A) (F0 m 0 ls [])) : Met l y wl rm (va_Pc vs (qmo dd cI cZ cR cJ sz ws)) (Qf (va_A ws sz)) mc ms (va_A ws sz) := by
  refine mk_met (cc := cc) (maxL := maxL) (ret := ret) hy hw hn ?_
  intro p e s m below meth c hx hb hr hts hown hlocks hml hin hv ls hl
  obtain ⟨⟨rfl, hP, hD, hK⟩, hao⟩ := hv
  exact body p e s m below meth c _ hx hb hr hts hown hlocks hml hin hao hP hD.self (fun q h => Or.inr h) va_S.rf hK ls hl
theorem bl_qmo {vs : List Value} {sz : Nat} : FrameBlind (va_Pc vs (qmo dd cI cZ cR cJ sz ws)) := fun a U g mk q => ⟨q.1, (bl_qm (vs := vs) a U g mk ⟨q.1, q.2.1⟩).2, va_AO.moved (u := U) (U := U.calling g mk a) (Vm.Alike.refl U.vm) q.2.2⟩
theorem ps_mo {As : List Value} (hao : va_AO "RecordSystem$Control" s) (hK : kq dd cI cZ cR cJ s) (hP : va_P dd vwCl ws H) (hD : va_D A ws) (is : List Nat) (hn : va_nd is = true) (hs : is.map (fun i => ws[i]?) = wc.map some) (hs2 : is.filterMap (fun i => ws[i]?) = wc) : PreS s H (va_Pc As (qmo dd cI cZ cR cJ H.size wc)) As :=
  ⟨bl_qmo, fun U hU hW => ⟨rfl, ((ps_m (As := As) hK hP hD is hn hs hs2).2 U hU hW).2, va_AO.moved hW.alike hao⟩⟩
end AO
