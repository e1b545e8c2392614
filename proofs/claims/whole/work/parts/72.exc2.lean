/-! a thrown object is caught by a row of the method's own table; the rows ahead name classes that it isn't of (all over the library's laws of throwing; nothing of Shelf42) -/
section CATCH
theorem zc_step {e : Env} {s : State} {a : Addr} {f : JFrame} {r : List Frame} {pc : Nat} {vm' : Vm} (hfind : ∀ (Q : Handler → Pre) (E : CtlPost) (d : Bool) (acts : List Action), wp (findHandler f a) Q E e d acts s ↔ Q (.found pc) d acts (s.setVm vm')) :
    (stepThrowing e s a (.java f :: r)).Is ((s.setVm vm').setFrames (.java { f with pc := pc, stack := [.ref a] } :: r)) [] := by
  simp only [stepThrowing, searchFrame, vmDo]
  generalize hr : Sem.go _ e false [] s = res
  obtain ⟨as, rfl, ha⟩ := Sem.eq_ok_of hr (a := Handler.found pc) (s' := s.setVm vm') (acts' := []) (by simp [hfind _ _ _ _])
  exact ⟨rfl, ha⟩
theorem zc_caught {tb : Tables} {e : Env} {s target : State} {g : JFrame} {c : Code} {below : List Frame} {a : Addr} (h : At s g.method c below) {pc : Nat} {vm' : Vm}
    (hfind : ∀ (Q : Handler → Pre) (E : CtlPost) (d : Bool) (acts : List Action), wp (findHandler g a) Q E e d acts ((s.setTop g).pushFrame (.throwing a)) ↔ Q (.found pc) d acts (((s.setTop g).pushFrame (.throwing a)).setVm vm'))
    (hrest : Steps tb e below ((s.setVm vm').setTop { g with pc := pc, stack := [.ref a] }) target) : Steps tb e below ((s.setTop g).pushFrame (.throwing a)) target := by
  obtain ⟨hgo, hw⟩ := h.throwing a
  refine Steps.head hgo hw ?_
  rw [stepThread_throwing (frames_entered h.top _), (zc_step (s := (s.setTop g).pushFrame (.throwing a)) hfind).1]
  obtain ⟨g₀, hg⟩ := Option.isSome_iff_exists.mp h.top
  obtain ⟨r, hr⟩ := State.topJava?_eq_some.mp hg
  have hr' : (s.setVm vm').frames = .java g₀ :: r := hr
  rw [State.setTop_of_frames _ hr'] at hrest
  rw [hr, List.tail_cons, State.pushFrame, State.setTop_of_frames _ hr, State.setFrames_setFrames]
  rw [show ∀ X : List Frame, (s.setFrames X).setVm vm' = (s.setVm vm').setFrames X from fun _ => rfl, State.setFrames_setFrames]
  exact hrest
section GO
variable {Q : Handler → Pre} {E : CtlPost} {e : Env} {d : Bool} {acts : List Action} {s : State} {f : JFrame} {a : Addr}
theorem zc_yes {x : ExceptionTableEntry} {t : List ExceptionTableEntry} {c : ClassId} {cell : Cell} (hx : covers x f.pc = true) (h0 : x.catchType ≠ 0)
    (hl : s.vm.ClassLinks e.platform f.method.cls x.catchType c) (hcell : s.heap[a]? = some cell) (hobj : ∀ k, cell.vm ≠ .statics k)
    (hk : ∃ k, s.vm.classes[cell.cls]? = some k) (hc : ∃ k, s.vm.classes[c]? = some k) (hfit : s.vm.assignable cell.cls c = true) :
    wp (findHandler.go f a (x :: t)) Q E e d acts s ↔ Q (.found x.handlerPc) d acts (s.setVm (s.vm.noted f.method.cls x.catchType (.cls c))) := by
  simp only [covers] at hx
  obtain ⟨ha, ht⟩ := (resolveClass_links e.toSetting hl).op (op := VmOp.resolveClass f.method.cls x.catchType) rfl
  have hal : s.vm.Alike (s.vm.noted f.method.cls x.catchType (.cls c)) := (Vm.Alike.refl s.vm).noted _ _ _
  obtain ⟨k1, hk1⟩ := hk
  obtain ⟨k2, hk2⟩ := hc
  obtain ⟨k1', hk1', -⟩ := hal.2.2 _ _ hk1
  obtain ⟨k2', hk2', -⟩ := hal.2.2 _ _ hk2
  have hfit' : (s.vm.noted f.method.cls x.catchType (.cls c)).assignable cell.cls c = true := by rw [hal.assignable]; exact hfit
  simp [findHandler.go, hx, h0, ha, ht, hcell, hobj, hk1', hk2', hfit', VmOp.dirties, VmOp.acts]
theorem zc_no {x : ExceptionTableEntry} {t : List ExceptionTableEntry} {c : ClassId} {cell : Cell} (hx : covers x f.pc = true) (h0 : x.catchType ≠ 0)
    (hl : s.vm.ClassLinks e.platform f.method.cls x.catchType c) (hcell : s.heap[a]? = some cell) (hobj : ∀ k, cell.vm ≠ .statics k)
    (hk : ∃ k, s.vm.classes[cell.cls]? = some k) (hc : ∃ k, s.vm.classes[c]? = some k) (hno : s.vm.assignable cell.cls c = false) :
    wp (findHandler.go f a (x :: t)) Q E e d acts s ↔ wp (findHandler.go f a t) Q E e d acts (s.setVm (s.vm.noted f.method.cls x.catchType (.cls c))) := by
  simp only [covers] at hx
  obtain ⟨ha, ht⟩ := (resolveClass_links e.toSetting hl).op (op := VmOp.resolveClass f.method.cls x.catchType) rfl
  have hal : s.vm.Alike (s.vm.noted f.method.cls x.catchType (.cls c)) := (Vm.Alike.refl s.vm).noted _ _ _
  obtain ⟨k1, hk1⟩ := hk
  obtain ⟨k2, hk2⟩ := hc
  obtain ⟨k1', hk1', -⟩ := hal.2.2 _ _ hk1
  obtain ⟨k2', hk2', -⟩ := hal.2.2 _ _ hk2
  have hno' : (s.vm.noted f.method.cls x.catchType (.cls c)).assignable cell.cls c = false := by rw [hal.assignable]; exact hno
  simp [findHandler.go, hx, h0, ha, ht, hcell, hobj, hk1', hk2', hno', VmOp.dirties, VmOp.acts]
end GO
variable {p : Program} {l : Launch} {e : Env} {R : Room} {s : State} {m : MethodId} {args : Array Value} {below : List Frame} {meth : Method} {c : Code} {H : Heap} {locs : List Loc} {cells slots : Nat} {Q : State → Prop} {ls : Array Slot} {rest : List Value} {pc : Nat}
/-- caught by the first row -/
theorem zc_catch1 {own name : String} {ce : Cell} {q : Addr} (hown : s.vm.findClass own = some m.cls) (x : ExceptionTableEntry) (suf : List ExceptionTableEntry) (hsplit : c.exceptionTable.toList = x :: suf) (hx : covers x pc = true) (h0 : x.catchType ≠ 0)
    (hlink : (Cond.classLink own x.catchType name).before args s = true) (hcast : (Cond.castable name name).before args s = true) (hcell : H[q]? = some ce) (hv : ce.vm = .none) (hcl : s.vm.findClass name = some ce.cls)
    (kk : W p l e R s m args below meth c H locs cells slots Q (F0 m x.handlerPc ls [.ref q])) : vx_W p l e R s m args below meth c H locs cells slots Q (F0 m pc ls rest) q := by
  intro T hT X
  have hpl : e.platform.magicAccessors = ({} : Platform).magicAccessors := by rw [X.admits.platform]
  obtain ⟨c3, c4, hc3, hc4, hasg⟩ := Cond.castable_spec hcast
  cases Option.some.inj (hc3.symm.trans hcl)
  cases Option.some.inj (hc4.symm.trans hcl)
  obtain ⟨c5, hc5, hcl5⟩ := Cond.classLink_spec hown hlink e.platform hpl
  cases Option.some.inj (hc5.symm.trans hcl)
  obtain ⟨k9, h9, -⟩ := Vm.findClass_spec hcl
  obtain ⟨dk, _, _, kt, hd, _, _, _, _, hkt, _, hopen⟩ := hcl5.here
  have hW := X.warmed
  obtain ⟨k9', h9', -⟩ := hW.alike.2.2 _ _ h9
  have hobj : ∀ k, ce.vm ≠ .statics k := fun k h => by rw [hv] at h; cases h
  obtain ⟨t, a1, b1⟩ := kk (T.setVm (T.vm.noted m.cls x.catchType (.cls ce.cls))) hT (X.noted (hW.noted hd hopen (State.rightAt_cls hcl5)))
  refine ⟨t, zc_caught (g := F0 m pc ls rest) X.here (pc := x.handlerPc) (vm' := T.vm.noted m.cls x.catchType (.cls ce.cls)) (fun Q E d acts => ?_) a1, b1⟩
  rw [Jvm.W.findHandler_eq (meth := meth) (code := c) X.method' X.code, hsplit]
  exact zc_yes (f := F0 m pc ls rest) hx h0 (hW.classLinks hcl5) (by show T.heap[q]? = some ce; rw [hT]; exact hcell) hobj ⟨k9', h9'⟩ ⟨k9', h9'⟩ (by show T.vm.assignable _ _ = true; rw [hW.alike.assignable]; exact hasg)
/-- caught by the second row, past a first one that names another class -/
theorem zc_catch2 {own n1 name : String} {ce : Cell} {q : Addr} (hown : s.vm.findClass own = some m.cls) (z x : ExceptionTableEntry) (suf : List ExceptionTableEntry) (hsplit : c.exceptionTable.toList = z :: x :: suf) (hz : covers z pc = true) (hz0 : z.catchType ≠ 0) (hx : covers x pc = true) (h0 : x.catchType ≠ 0)
    (hlz : (Cond.classLink own z.catchType n1).before args s = true) (hnc : va_Nc name n1 s) (hlink : (Cond.classLink own x.catchType name).before args s = true) (hcast : (Cond.castable name name).before args s = true) (hcell : H[q]? = some ce) (hv : ce.vm = .none) (hcl : s.vm.findClass name = some ce.cls)
    (kk : W p l e R s m args below meth c H locs cells slots Q (F0 m x.handlerPc ls [.ref q])) : vx_W p l e R s m args below meth c H locs cells slots Q (F0 m pc ls rest) q := by
  intro T hT X
  have hpl : e.platform.magicAccessors = ({} : Platform).magicAccessors := by rw [X.admits.platform]
  obtain ⟨c3, c4, hc3, hc4, hasg⟩ := Cond.castable_spec hcast
  cases Option.some.inj (hc3.symm.trans hcl)
  cases Option.some.inj (hc4.symm.trans hcl)
  obtain ⟨c5, hc5, hcl5⟩ := Cond.classLink_spec hown hlink e.platform hpl
  cases Option.some.inj (hc5.symm.trans hcl)
  obtain ⟨c6, hc6, hcl6⟩ := Cond.classLink_spec hown hlz e.platform hpl
  obtain ⟨a8, b8, h1, h2, h3⟩ := hnc
  cases Option.some.inj (h1.symm.trans hcl)
  cases Option.some.inj (h2.symm.trans hc6)
  obtain ⟨k9, h9, -⟩ := Vm.findClass_spec hcl
  obtain ⟨k6, h6, -⟩ := Vm.findClass_spec hc6
  have hobj : ∀ k, ce.vm ≠ .statics k := fun k h => by rw [hv] at h; cases h
  have hW := X.warmed
  have hWz : s.WarmedH (T.vm.noted m.cls z.catchType (.cls c6)) := by
    obtain ⟨dk, _, _, kt, hd, _, _, _, _, hkt, _, hopen⟩ := hcl6.here
    exact hW.noted hd hopen (State.rightAt_cls hcl6)
  have hWx : s.WarmedH ((T.vm.noted m.cls z.catchType (.cls c6)).noted m.cls x.catchType (.cls ce.cls)) := by
    obtain ⟨dk, _, _, kt, hd, _, _, _, _, hkt, _, hopen⟩ := hcl5.here
    exact hWz.noted hd hopen (State.rightAt_cls hcl5)
  obtain ⟨k9a, h9a, -⟩ := hW.alike.2.2 _ _ h9
  obtain ⟨k6a, h6a, -⟩ := hW.alike.2.2 _ _ h6
  obtain ⟨k9b, h9b, -⟩ := hWz.alike.2.2 _ _ h9
  obtain ⟨t, a1, b1⟩ := kk (T.setVm ((T.vm.noted m.cls z.catchType (.cls c6)).noted m.cls x.catchType (.cls ce.cls))) hT (X.noted hWx)
  refine ⟨t, zc_caught (g := F0 m pc ls rest) X.here (pc := x.handlerPc) (vm' := (T.vm.noted m.cls z.catchType (.cls c6)).noted m.cls x.catchType (.cls ce.cls)) (fun Q E d acts => ?_) a1, b1⟩
  rw [Jvm.W.findHandler_eq (meth := meth) (code := c) X.method' X.code, hsplit]
  refine Iff.trans (zc_no (s := (T.setTop (F0 m pc ls rest)).pushFrame (.throwing q)) (f := F0 m pc ls rest) hz hz0 (hW.classLinks hcl6) (by show T.heap[q]? = some ce; rw [hT]; exact hcell) hobj ⟨k9a, h9a⟩ ⟨k6a, h6a⟩ (by show T.vm.assignable _ _ = false; rw [hW.alike.assignable]; exact h3)) ?_
  exact zc_yes (f := F0 m pc ls rest) hx h0 (hWz.classLinks hcl5) (by show T.heap[q]? = some ce; rw [hT]; exact hcell) hobj ⟨k9b, h9b⟩ ⟨k9b, h9b⟩ (by show (T.vm.noted m.cls z.catchType (.cls c6)).assignable _ _ = true; rw [hWz.alike.assignable]; exact hasg)
end CATCH

/-! methods that only throw -/
def iobN : String := "java/lang/IndexOutOfBoundsException"
def iarN : String := "java/lang/IllegalArgumentException"
def supN : List String := ["java/lang/RuntimeException", "java/lang/Exception"]
/-- what a throw needs of the tables and of the statics -/
def zxw : List Cond := [.castable iobN iobN, .castable iarN iarN, .declares (Bundle.init0 "java/lang/RuntimeException"), .declares (Bundle.init0 "java/lang/Exception"), .declares (Bundle.init0 "java/lang/Throwable")]
def zxi (w : Cond) : Bool := match w with
  | .castable _ _ => true
  | .declares _ => true
  | _ => false
theorem zxw_all : ∀ w ∈ zxw, zxi w = true := by decide +kernel
theorem zxw_tbl : ∀ w ∈ zxw, w.onTables = true := by decide +kernel
def zxW (U : State) : Prop := ∀ w ∈ zxw, va_Nw w U
theorem zxW.use {U : State} {args : Array Value} (h : zxW U) (k : Nat) {w : Cond} (hw : zxw[k]? = some w) : w.before args U = true := va_Nw.use (zxw_tbl w (List.mem_of_getElem? hw)) (h w (List.mem_of_getElem? hw))
theorem zxW.warm {s U : State} (hW : s.WarmedH U.vm) (h : zxW s) : zxW U := by
  intro w hw
  have h1 := zxw_all w hw
  have h2 := h w hw
  cases w <;> first | exact va_Nw.warmC hW h2 | exact va_Nw.warmD hW h2 | (simp [zxi] at h1)
theorem zxW.same {u U : State} (e : u.vm = U.vm) (h : zxW u) : zxW U := fun w hw => va_Nw.same (zxw_tbl w hw) e (h w hw)
def zx (U : State) : Prop := zxW U ∧ vx_Zq Bundle.tN "UNASSIGNED_STACK" Bundle.steD (fun q => U.heap.size ≤ q) U U.heap ∧ vx_Zq Bundle.tN "SUPPRESSED_SENTINEL" Bundle.listD (fun q => U.heap.size ≤ q) U U.heap ∧ va_Nc iarN iobN U
theorem zx.call {U : State} (h : zx U) (g : JFrame) (mk : MethodId) (a : Array Value) : zx (U.calling g mk a) :=
  ⟨zxW.same (u := U) (U := U.calling g mk a) rfl h.1, vx_Zq.moved (u := U) (U := U.calling g mk a) (Vm.Alike.refl U.vm) h.2.1, vx_Zq.moved (u := U) (U := U.calling g mk a) (Vm.Alike.refl U.vm) h.2.2.1, va_Nc.moved (u := U) (U := U.calling g mk a) (Vm.Alike.refl U.vm) h.2.2.2⟩
/-- the same in a later heap -/
def zs (A : Nat → Prop) (s : State) (H : Heap) : Prop := zxW s ∧ vx_Zq Bundle.tN "UNASSIGNED_STACK" Bundle.steD A s H ∧ vx_Zq Bundle.tN "SUPPRESSED_SENTINEL" Bundle.listD A s H ∧ va_Nc iarN iobN s
theorem zs.at {A : Nat → Prop} {s U : State} {H : Heap} (h : zs A s H) (hA : ∀ q : Nat, H.size ≤ q → A q) (hU : U.heap = H) (hW : s.WarmedH U.vm) : zx U := by
  subst hU
  exact ⟨h.1.warm hW, vx_Zq.moved hW.alike (vx_Zq.narrow h.2.1 hA), vx_Zq.moved hW.alike (vx_Zq.narrow h.2.2.1 hA), va_Nc.moved hW.alike h.2.2.2⟩
theorem zs.kept {A : Nat → Prop} {s : State} {H H1 : Heap} (h : zs A s H) (hq : ∀ a : Nat, a < H.size → ¬ A a → H1[a]? = H[a]?) : zs A s H1 := ⟨h.1, vx_Zq.kept h.2.1 hq, vx_Zq.kept h.2.2.1 hq, h.2.2.2⟩
theorem zx.zs {s : State} (h : zx s) : zs (fun q => s.heap.size ≤ q) s s.heap := h
def xcO (cls : String) : String → State → State → Prop := fun E st t => E = cls ∧ st.heap.size ≤ t.heap.size ∧ ∀ q : Nat, q < st.heap.size → t.heap[q]? = st.heap[q]?
def QcNo : Array Value → State → Outcome → State → Prop := fun _ _ _ _ => False
def QcBad (r : Int32) : Array Value → State → Outcome → State → Prop := va_Qi (fun (x : Int32) (_ : Unit) => x = r) (fun _ _ => True) (fun _ => False)
theorem zs.S {A : Nat → Prop} {s : State} {H : Heap} {locs : List Loc} (h : zs A s s.heap) (hS : va_S A s.heap H locs) : zs A s H := h.kept (fun a h1 h2 => hS.2.1 a h1 h2)
section THR
variable {p : Program} {l : Launch} {e : Env} {R : Room} {s : State} {m : MethodId} {args : Array Value} {below : List Frame} {meth : Method} {c : Code} {H : Heap} {locs : List Loc} {cells slots : Nat} {Q : State → Prop} {ls : Array Slot} {rest st0 : List Value} {pc : Nat} {cc : ByteArray} {dd : va_G} {cI cZ cR cJ : ClassId} {ws wc : va_W} {H0 : Heap} {A : Nat → Prop}
theorem cx_only {mc ms : Nat} {cls : String} {a : Array Value} (hr : vx_Run p l e R s m args below meth c H locs cells slots mc ms (F0 m pc ls st0) rest (QcNo a) (xcO cls) (fun _ => False))
    (kx : ∀ (ce : Cell) (q9 : Addr) (H1 : Heap), H.size ≤ H1.size → (∀ q : Nat, q < H.size → H1[q]? = H[q]?) → H1[q9]? = some ce → ce.vm = .none → s.vm.findClass cls = some ce.cls → vx_W p l e R s m args below meth c H1 locs (cells + mc) (slots + ms) Q (F0 m pc ls rest) q9) : W p l e R s m args below meth c H locs cells slots Q (F0 m pc ls st0) := by
  intro T hT X
  rcases hr T hT X with ⟨v, st₀, t, T', L, h0, X', hL, e1, e2, hq, st⟩ | ⟨q, st₀, t, T', L, E, ce, h0, X', hL, e1, e2, hxc, hce, hcv, hcl, st⟩
  · exact absurd hq id
  · obtain ⟨rfl, hz, hk⟩ := hxc
    rw [h0] at hz hk
    obtain ⟨t2, a1, b1⟩ := kx ce q T'.heap (by rw [e1]; exact hz) (fun q h => by rw [e1]; exact hk q h) (by rw [e1]; exact hce) hcv hcl T' rfl (Stand.forget X' (fun z h => (hL z h).elim))
    exact ⟨t2, st.trans a1, b1⟩
theorem cm_bad {mc ms : Nat} {a : Array Value} {r : Int32} (hP : va_P dd vwCl ws H) (hS : va_S A H0 H locs)
    (hr : va_Run p l e R s m args below meth c H locs cells slots mc ms (F0 m pc ls st0) rest (QcBad r a) (fun _ => False))
    (kk : ∀ (H1 : Heap) (locs1 : List Loc), va_P dd vwCl ws H1 → va_S A H0 H1 locs1 → W p l e R s m args below meth c H1 locs1 (cells + mc) (slots + ms) Q (F0 m (pc + 3) ls (.int r :: rest))) : W p l e R s m args below meth c H locs cells slots Q (F0 m pc ls st0) := by
  refine va_calli hr hS (fun q _ h => h.elim) (fun q h => h.elim) (fun x u t H1 locs1 ht hvm hw hB hz1 hk1 hS1 => ?_)
  subst hw
  exact kk H1 locs1 (hP.kept (fun k q hk => hk1 q.1 ((hP k q hk).lt) (fun h => h))) hS1
theorem mk_thr {y : MethodName} {wl wl' : List Cond} {rm : Room} {maxL : Nat} {ret : Option FieldType} {vs : List Value} {Pc : State → Prop} {cls : String} {mc ms : Nat}
    (hy : plainName y.cls = true) (hw : wl = Cond.code y cc maxL ret :: wl') (hn : (lg_sl vs).length ≤ maxL)
    (body : ∀ (p : Program) (e : Env) (s : State) (m : MethodId) (below : List Frame) (meth : Method) (c : Code), p.tables.exec = Jvm.exec → c.code = cc → meth.sig.returnType = ret → (∀ w ∈ wl, w.before vs.toArray s = true) → s.vm.findClass y.cls = some m.cls → meth.locks = false → c.maxLocals = maxL → (∀ x ∈ c.exceptionTable.toList, False) → Pc s →
      ∀ ls : Array Slot, lv_has ls maxL (lv_args 0 vs) → W p l e rm s m vs.toArray below meth c s.heap [] 0 0 (vx_MQ below QcNo (xcO cls) vs.toArray s mc ms (fun _ => False)) (F0 m 0 ls [])) : vx_Met l y wl rm (va_Pc vs Pc) QcNo (xcO cls) mc ms (fun _ => False) := by
  refine vx_ofW (cc := cc) (maxL := maxL) (ret := ret) hy hw ?_
  intro p e s m args below meth c s₁ B hml htab hv
  obtain ⟨rfl, hP⟩ := hv
  rw [lg_entry_eq]
  exact body p e s m below meth c B.exec B.bytes B.returns (atoms_spec (ws := wl) B.pre) (findClass_of_methodNamed B.named) B.notSynchronized hml htab hP _ (lv_entry vs hn)
theorem met_of_vx {y : MethodName} {wl : List Cond} {rm : Room} {Pc : Array Value → State → Prop} {Qc : Array Value → State → Outcome → State → Prop} {mc ms : Nat} {free : Addr → Prop} (h : vx_Met l y wl rm Pc Qc (fun _ _ _ => False) mc ms free) : Met l y wl rm Pc Qc mc ms free := by
  intro p e ha hc hk s m args below hf happ hP hK
  obtain ⟨n, o, h1, h2, h3, hQ⟩ := h p e ha hc hk s m args below hf happ hP hK
  refine ⟨n, o, h1, h2, h3, ?_⟩
  rcases hQ with q | ⟨q, -, E, ce, L, hx, -⟩
  · exact q
  · exact hx.elim
theorem mk_metH {y : MethodName} {wl wl' : List Cond} {rm : Room} {maxL : Nat} {ret : Option FieldType} {hh : List (Nat × Nat × Nat × Nat)} {vs : List Value} {Pc : State → Prop} {Qc : Array Value → State → Outcome → State → Prop} {mc ms : Nat} {free : Addr → Prop}
    (hy : plainName y.cls = true) (hw : wl = Cond.codeWith y cc maxL ret hh :: wl') (hn : (lg_sl vs).length ≤ maxL)
    (body : ∀ (p : Program) (e : Env) (s : State) (m : MethodId) (below : List Frame) (meth : Method) (c : Code), p.tables.exec = Jvm.exec → c.code = cc → meth.sig.returnType = ret → (∀ w ∈ wl, w.before vs.toArray s = true) → s.vm.findClass y.cls = some m.cls → meth.locks = false → c.maxLocals = maxL → c.exceptionTable.toList = tableOf hh → Pc s →
      ∀ ls : Array Slot, lv_has ls maxL (lv_args 0 vs) → W p l e rm s m vs.toArray below meth c s.heap [] 0 0 (MQ below Qc vs.toArray s mc ms free) (F0 m 0 ls [])) : Met l y wl rm (va_Pc vs Pc) Qc mc ms free := by
  refine met_of_vx (vx_ofWH (cc := cc) (maxL := maxL) (ret := ret) (hh := hh) hy hw ?_)
  intro p e s m args below meth c s₁ B hml hv
  obtain ⟨rfl, hP⟩ := hv
  rw [lg_entry_eq]
  have hts := atoms_spec (ws := wl) B.pre
  exact vx_ret (body p e s m below meth c B.exec B.bytes B.returns hts (findClass_of_methodNamed B.named) B.notSynchronized hml (vx_table (x := y) B (hts _ (by rw [hw]; exact List.mem_cons_self))) hP _ (lv_entry vs hn))
theorem mk_mutH {y : MethodName} {wl wl' : List Cond} {rm : Room} {maxL : Nat} {ret : Option FieldType} {hh : List (Nat × Nat × Nat × Nat)} {vs : List Value} {sz : Nat} {Qf : (Nat → Prop) → Array Value → State → Outcome → State → Prop} {mc ms : Nat}
    (hy : plainName y.cls = true) (hw : wl = Cond.codeWith y cc maxL ret hh :: wl') (hn : (lg_sl vs).length ≤ maxL)
    (body : ∀ (p : Program) (e : Env) (s : State) (m : MethodId) (below : List Frame) (meth : Method) (c : Code) (A : Nat → Prop), p.tables.exec = Jvm.exec → c.code = cc → meth.sig.returnType = ret → (∀ w ∈ wl, w.before vs.toArray s = true) → s.vm.findClass y.cls = some m.cls → meth.locks = false → c.maxLocals = maxL →
      va_P dd vwCl ws s.heap → va_D A ws → (∀ q : Nat, s.heap.size ≤ q → A q) → va_S A s.heap s.heap [] → kq dd cI cZ cR cJ s →
      ∀ ls : Array Slot, lv_has ls maxL (lv_args 0 vs) → W p l e rm s m vs.toArray below meth c s.heap [] 0 0 (MQ below (Qf A) vs.toArray s mc ms A) (F0 m 0 ls [])) : Met l y wl rm (va_Pc vs (qm dd cI cZ cR cJ sz ws)) (Qf (va_A ws sz)) mc ms (va_A ws sz) := by
  refine mk_metH (cc := cc) (maxL := maxL) (ret := ret) (hh := hh) hy hw hn ?_
  intro p e s m below meth c hx hb hr hts hown hlocks hml htab hv ls hl
  obtain ⟨rfl, hP, hD, hK⟩ := hv
  exact body p e s m below meth c _ hx hb hr hts hown hlocks hml hP hD.self (fun q h => Or.inr h) va_S.rf hK ls hl
/-- a throw-only call's start: the receiver's cells, what a throw needs -/
def qx (dd : va_G) (cI cZ cR cJ : ClassId) (ws : va_W) (U : State) : Prop := va_P dd vwCl ws U.heap ∧ kq dd cI cZ cR cJ U ∧ zx U
theorem bl_qx {vs : List Value} : FrameBlind (va_Pc vs (qx dd cI cZ cR cJ ws)) := fun a U g mk q => ⟨q.1, q.2.1, q.2.2.1.call g mk a, q.2.2.2.call g mk a⟩
theorem pv_x {As : List Value} {b ci : Nat} {q : vw_C} {fs : List Value} (hK : kq dd cI cZ cR cJ s) (hP : va_P dd vwCl ws H) (hZ : zs A s H) (hA : ∀ q : Nat, H.size ≤ q → A q) (k : Nat) (he : ws[k]? = some (b, .inr (ci, fs))) (hc : vwCl[ci]? = some q) (is : List Nat) (hs : is.filterMap (fun i => ws[i]?) = wc) : PreV s H q.1 b (va_Pc (.ref b :: As) (qx dd cI cZ cR cJ wc)) As :=
  ⟨bl_qx, va_recv hK.1 hP hc he, fun U hU hW => ⟨rfl, by rw [hU]; exact hP.sub is hs, hK.warm hW, hZ.at hA hU hW⟩⟩
theorem ps_x {As : List Value} (hK : kq dd cI cZ cR cJ s) (hP : va_P dd vwCl ws H) (hZ : zs A s H) (hA : ∀ q : Nat, H.size ≤ q → A q) (is : List Nat) (hs : is.filterMap (fun i => ws[i]?) = wc) : PreS s H (va_Pc As (qx dd cI cZ cR cJ wc)) As :=
  ⟨bl_qx, fun U hU hW => ⟨rfl, by rw [hU]; exact hP.sub is hs, hK.warm hW, hZ.at hA hU hW⟩⟩
end THR
