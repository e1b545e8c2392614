set_option maxHeartbeats 4000000 in
set_option maxRecDepth 100000 in
theorem tX4_checkIndex (l : Launch) (hlt : l.stackTraces = false) (dd : va_G) (cI cZ cR cJ : ClassId) (x : Int32) (n : Nat) (hbad : x < 0 ∨ ¬ x < nI n) : vx_Met l yX4_checkIndex wsX4_checkIndex ({ frames := 6, cells := 1, slots := 6, locals := 81 }) (va_Pc [.int x, .int (nI n)] (qx dd cI cZ cR cJ [])) QcNo (xcO iobN) 1 6 (fun _ => False) := by
  refine mk_thr (cc := cX4_checkIndex) (maxL := 2) (ret := none) (by decide) rfl (Nat.le_of_ble_eq_true rfl) ?_
  intro p e s m below meth c hx hb hr hts hown hlocks hml htab hv ls hl
  obtain ⟨hP, hK, hZ⟩ := hv
  have hown : s.vm.findClass RX4 = some m.cls := hown
  have hout : ∀ (k : Nat), ∀ x ∈ c.exceptionTable.toList, covers x k = false := fun k x h => (htab x h).elim
  have hl : lv_has ls 2 [(0, .int x), (1, .int (nI n))] := hl
  have hthr : W p l e ({ frames := 6, cells := 1, slots := 6, locals := 81 } : Room) s m ([.int x, .int (nI n)] : List Value).toArray below meth c s.heap [] 0 0 (vx_MQ below QcNo (xcO iobN) ([.int x, .int (nI n)] : List Value).toArray s 1 6 (fun _ => False)) (F0 m 9 ls []) := vx_throw0 hx hb hlt (own := RX4) (cls := iobN) (names := supN) (ik := 171) (ic := 173) hown (by decide +kernel) (by decide +kernel) (hts (.classLink RX4 171 iobN) (by decide +kernel)) (hts (.initialized iobN) (by decide +kernel)) (vx_hat (B := [.castable iobN iobN, .declares (Bundle.init0 "java/lang/RuntimeException"), .declares (Bundle.init0 "java/lang/Exception"), .declares (Bundle.init0 "java/lang/Throwable")]) (fun w h => hts w (List.mem_cons_of_mem _ (List.mem_append_right _ h))) (by decide +kernel) (vx_c (hZ.1.use 0 rfl) (vx_c (hZ.1.use 2 rfl) (vx_c (hZ.1.use 3 rfl) (vx_c (hZ.1.use 4 rfl) vx_n))))) (by decide +kernel) hZ.2.1 hZ.2.2.1 va_S.rf (hl.1.trans hml.symm) dX4_checkIndex_9 dX4_checkIndex_12 dX4_checkIndex_13 dX4_checkIndex_16 (hout _) (Nat.le_of_ble_eq_true rfl) (Nat.le_of_ble_eq_true rfl) (Nat.le_of_ble_eq_true rfl) (Nat.le_of_ble_eq_true rfl) hlocks (fun t h1 h2 h3 => ⟨rfl, h2, h3⟩) (fun z h => nomatch h) (Nat.le_refl 1) (Nat.le_refl 6)
  refine lv_iload_n hx hb dX4_checkIndex_0 rfl (lv_at hl 0 rfl) ?_
  refine lv_if_lt (tgt := 9) hx hb dX4_checkIndex_1 (by decide) (fun c1 => hthr) (fun c1 => ?_)
  refine lv_iload_n hx hb dX4_checkIndex_4 rfl (lv_at hl 0 rfl) ?_
  refine lv_iload_n hx hb dX4_checkIndex_5 rfl (lv_at hl 1 rfl) ?_
  exact lv_icmp_lt (tgt := 17) hx hb dX4_checkIndex_6 (by decide) (fun c2 => absurd c2 (hbad.resolve_left c1)) (fun c2 => hthr)

set_option maxHeartbeats 4000000 in
set_option maxRecDepth 100000 in
theorem tX4_checkArgument (l : Launch) (hlt : l.stackTraces = false) (dd : va_G) (cI cZ cR cJ : ClassId) (x : Int32) (n : Nat) (hbad : x < 0 ∨ ¬ x ≤ nI n) : vx_Met l yX4_checkArgument wsX4_checkArgument ({ frames := 6, cells := 1, slots := 6, locals := 81 }) (va_Pc [.int x, .int (nI n)] (qx dd cI cZ cR cJ [])) QcNo (xcO iarN) 1 6 (fun _ => False) := by
  refine mk_thr (cc := cX4_checkArgument) (maxL := 2) (ret := none) (by decide) rfl (Nat.le_of_ble_eq_true rfl) ?_
  intro p e s m below meth c hx hb hr hts hown hlocks hml htab hv ls hl
  obtain ⟨hP, hK, hZ⟩ := hv
  have hown : s.vm.findClass RX4 = some m.cls := hown
  have hout : ∀ (k : Nat), ∀ x ∈ c.exceptionTable.toList, covers x k = false := fun k x h => (htab x h).elim
  have hl : lv_has ls 2 [(0, .int x), (1, .int (nI n))] := hl
  have hthr : W p l e ({ frames := 6, cells := 1, slots := 6, locals := 81 } : Room) s m ([.int x, .int (nI n)] : List Value).toArray below meth c s.heap [] 0 0 (vx_MQ below QcNo (xcO iarN) ([.int x, .int (nI n)] : List Value).toArray s 1 6 (fun _ => False)) (F0 m 9 ls []) := vx_throw0 hx hb hlt (own := RX4) (cls := iarN) (names := supN) (ik := 174) (ic := 176) hown (by decide +kernel) (by decide +kernel) (hts (.classLink RX4 174 iarN) (by decide +kernel)) (hts (.initialized iarN) (by decide +kernel)) (vx_hat (B := [.castable iarN iarN, .declares (Bundle.init0 "java/lang/RuntimeException"), .declares (Bundle.init0 "java/lang/Exception"), .declares (Bundle.init0 "java/lang/Throwable")]) (fun w h => hts w (List.mem_cons_of_mem _ (List.mem_append_right _ h))) (by decide +kernel) (vx_c (hZ.1.use 1 rfl) (vx_c (hZ.1.use 2 rfl) (vx_c (hZ.1.use 3 rfl) (vx_c (hZ.1.use 4 rfl) vx_n))))) (by decide +kernel) hZ.2.1 hZ.2.2.1 va_S.rf (hl.1.trans hml.symm) dX4_checkArgument_9 dX4_checkArgument_12 dX4_checkArgument_13 dX4_checkArgument_16 (hout _) (Nat.le_of_ble_eq_true rfl) (Nat.le_of_ble_eq_true rfl) (Nat.le_of_ble_eq_true rfl) (Nat.le_of_ble_eq_true rfl) hlocks (fun t h1 h2 h3 => ⟨rfl, h2, h3⟩) (fun z h => nomatch h) (Nat.le_refl 1) (Nat.le_refl 6)
  refine lv_iload_n hx hb dX4_checkArgument_0 rfl (lv_at hl 0 rfl) ?_
  refine lv_if_lt (tgt := 9) hx hb dX4_checkArgument_1 (by decide) (fun c1 => hthr) (fun c1 => ?_)
  refine lv_iload_n hx hb dX4_checkArgument_4 rfl (lv_at hl 0 rfl) ?_
  refine lv_iload_n hx hb dX4_checkArgument_5 rfl (lv_at hl 1 rfl) ?_
  exact lv_icmp_le (tgt := 17) hx hb dX4_checkArgument_6 (by decide) (fun c2 => absurd c2 (hbad.resolve_left c1)) (fun c2 => hthr)

set_option maxHeartbeats 4000000 in
set_option maxRecDepth 100000 in
theorem tX4_controlAt (l : Launch) (hlt : l.stackTraces = false) (dd : va_G) (cI cZ cR cJ : ClassId) (h0 : Nat) (q1 : Nat) (q2 : Nat) (q3 : Nat) (qs : Nat) (qh : Nat) (x : Int32) (hbad : x < 0 ∨ ¬ x < nI 4) : vx_Met l yX4_controlAt wsX4_controlAt ({ frames := 7, cells := 1, slots := 6, locals := 102 }) (va_Pc [.ref h0, .int x] (qx dd cI cZ cR cJ [(h0, .inr (4, [.ref q1, .ref q2, .ref q3, .ref qs, .ref qh]))])) QcNo (xcO iobN) 1 6 (fun _ => False) := by
  refine mk_thr (cc := cX4_controlAt) (maxL := 2) (ret := (some (.object "RecordSystem$Control"))) (by decide) rfl (Nat.le_of_ble_eq_true rfl) ?_
  intro p e s m below meth c hx hb hr hts hown hlocks hml htab hv ls hl
  obtain ⟨hP, hK, hZ⟩ := hv
  have hown : s.vm.findClass RX4 = some m.cls := hown
  have hout : ∀ (k : Nat), ∀ x ∈ c.exceptionTable.toList, covers x k = false := fun k x h => (htab x h).elim
  have hl : lv_has ls 2 [(0, .ref h0), (1, .int x)] := hl
  refine lv_iload_n hx hb dX4_controlAt_0 rfl (lv_at hl 1 rfl) ?_
  refine lv_iconst (v := nI 4) hx hb dX4_controlAt_1 (by decide) ?_
  refine cx_only (vx_runS (As := [.int x, .int (nI 4)]) (rest := []) ⟨hx, hb, hml, hown, hts⟩ (tX4_checkIndex l hlt dd cI cZ cR cJ x 4 hbad) (va_cwS 2 hts gX4_controlAt_X4_checkIndex rfl rfl rfl (by decide +kernel) ⟨Nat.le_of_ble_eq_true rfl, Nat.le_of_ble_eq_true rfl⟩) (ps_x (A := fun q => s.heap.size ≤ q) hK hP hZ (fun _ h => h) [] rfl) rfl rfl hl.1 rfl (lv_room (Nat.le_of_ble_eq_true rfl)) dX4_controlAt_2 ⟨Nat.le_of_ble_eq_true rfl, Nat.le_of_ble_eq_true rfl⟩) (fun ce q9 H1 h1 h2 h3 h4 h5 => ?_)
  exact vx_out (hout _) hlocks h3 h4 h5 (fun t ht hv9 => ⟨rfl, by rw [ht]; exact h1, fun q h => by rw [ht]; exact h2 q h⟩) (fun z h => nomatch h) (Nat.le_refl 1) (Nat.le_refl 6)

set_option maxHeartbeats 4000000 in
set_option maxRecDepth 100000 in
theorem tX4_name_1 (l : Launch) (hlt : l.stackTraces = false) (dd : va_G) (cI cZ cR cJ : ClassId) (h0 : Nat) (q1 : Nat) (q2 : Nat) (q3 : Nat) (qs : Nat) (qh : Nat) (x : Int32) (nm : Int64) (hbad : x < 0 ∨ ¬ x < nI 4) : vx_Met l yX4_name wsX4_name ({ frames := 8, cells := 1, slots := 6, locals := 123 }) (va_Pc [.ref h0, .int x, .long nm] (qx dd cI cZ cR cJ [(h0, .inr (4, [.ref q1, .ref q2, .ref q3, .ref qs, .ref qh]))])) QcNo (xcO iobN) 1 6 (fun _ => False) := by
  refine mk_thr (cc := cX4_name) (maxL := 6) (ret := none) (by decide) rfl (Nat.le_of_ble_eq_true rfl) ?_
  intro p e s m below meth c hx hb hr hts hown hlocks hml htab hv ls hl
  obtain ⟨hP, hK, hZ⟩ := hv
  have hown : s.vm.findClass RX4 = some m.cls := hown
  have hout : ∀ (k : Nat), ∀ x ∈ c.exceptionTable.toList, covers x k = false := fun k x h => (htab x h).elim
  have hl : lv_has ls 6 [(0, .ref h0), (1, .int x), (2, .long nm)] := hl
  refine lv_aload_n hx hb dX4_name_0 rfl (lv_at hl 0 rfl) ?_
  refine lv_iload_n hx hb dX4_name_1 rfl (lv_at hl 1 rfl) ?_
  refine cx_only (vx_runV (As := [.int x]) (rest := []) ⟨hx, hb, hml, hown, hts⟩ (tX4_controlAt l hlt dd cI cZ cR cJ h0 q1 q2 q3 qs qh x hbad) (cwV 1 hts gX4_name_X4_controlAt rfl rfl rfl (by decide +kernel) ⟨Nat.le_of_ble_eq_true rfl, Nat.le_of_ble_eq_true rfl⟩) (pv_x (A := fun q => s.heap.size ≤ q) hK hP hZ (fun _ h => h) 0 rfl (ci := 4) rfl [0] rfl) rfl rfl hl.1 rfl (lv_room (Nat.le_of_ble_eq_true rfl)) dX4_name_2 ⟨Nat.le_of_ble_eq_true rfl, Nat.le_of_ble_eq_true rfl⟩) (fun ce q9 H1 h1 h2 h3 h4 h5 => ?_)
  exact vx_out (hout _) hlocks h3 h4 h5 (fun t ht hv9 => ⟨rfl, by rw [ht]; exact h1, fun q h => by rw [ht]; exact h2 q h⟩) (fun z h => nomatch h) (Nat.le_refl 1) (Nat.le_refl 6)

set_option maxHeartbeats 4000000 in
set_option maxRecDepth 100000 in
theorem tX4_open_1 (l : Launch) (hlt : l.stackTraces = false) (dd : va_G) (cI cZ cR cJ : ClassId) (h0 : Nat) (q1 : Nat) (q2 : Nat) (q3 : Nat) (qs : Nat) (qh : Nat) (x : Int32) (hbad : x < 0 ∨ ¬ x < nI 4) : vx_Met l yX4_open wsX4_open ({ frames := 8, cells := 1, slots := 6, locals := 123 }) (va_Pc [.ref h0, .int x] (qx dd cI cZ cR cJ [(h0, .inr (4, [.ref q1, .ref q2, .ref q3, .ref qs, .ref qh]))])) QcNo (xcO iobN) 1 6 (fun _ => False) := by
  refine mk_thr (cc := cX4_open) (maxL := 4) (ret := (some .int)) (by decide) rfl (Nat.le_of_ble_eq_true rfl) ?_
  intro p e s m below meth c hx hb hr hts hown hlocks hml htab hv ls hl
  obtain ⟨hP, hK, hZ⟩ := hv
  have hown : s.vm.findClass RX4 = some m.cls := hown
  have hout : ∀ (k : Nat), ∀ x ∈ c.exceptionTable.toList, covers x k = false := fun k x h => (htab x h).elim
  have hl : lv_has ls 4 [(0, .ref h0), (1, .int x)] := hl
  refine lv_aload_n hx hb dX4_open_0 rfl (lv_at hl 0 rfl) ?_
  refine lv_iload_n hx hb dX4_open_1 rfl (lv_at hl 1 rfl) ?_
  refine cx_only (vx_runV (As := [.int x]) (rest := []) ⟨hx, hb, hml, hown, hts⟩ (tX4_controlAt l hlt dd cI cZ cR cJ h0 q1 q2 q3 qs qh x hbad) (cwV 1 hts gX4_open_X4_controlAt rfl rfl rfl (by decide +kernel) ⟨Nat.le_of_ble_eq_true rfl, Nat.le_of_ble_eq_true rfl⟩) (pv_x (A := fun q => s.heap.size ≤ q) hK hP hZ (fun _ h => h) 0 rfl (ci := 4) rfl [0] rfl) rfl rfl hl.1 rfl (lv_room (Nat.le_of_ble_eq_true rfl)) dX4_open_2 ⟨Nat.le_of_ble_eq_true rfl, Nat.le_of_ble_eq_true rfl⟩) (fun ce q9 H1 h1 h2 h3 h4 h5 => ?_)
  exact vx_out (hout _) hlocks h3 h4 h5 (fun t ht hv9 => ⟨rfl, by rw [ht]; exact h1, fun q h => by rw [ht]; exact h2 q h⟩) (fun z h => nomatch h) (Nat.le_refl 1) (Nat.le_refl 6)

set_option maxHeartbeats 4000000 in
set_option maxRecDepth 100000 in
theorem tX4_make_1 (l : Launch) (hlt : l.stackTraces = false) (dd : va_G) (cI cZ cR cJ : ClassId) (h0 : Nat) (q1 : Nat) (q2 : Nat) (q3 : Nat) (qs : Nat) (qh : Nat) (x : Int32) (hbad : x < 0 ∨ ¬ x < nI 4) : vx_Met l yX4_make wsX4_make ({ frames := 8, cells := 1, slots := 6, locals := 123 }) (va_Pc [.ref h0, .int x] (qx dd cI cZ cR cJ [(h0, .inr (4, [.ref q1, .ref q2, .ref q3, .ref qs, .ref qh]))])) QcNo (xcO iobN) 1 6 (fun _ => False) := by
  refine mk_thr (cc := cX4_make) (maxL := 4) (ret := (some .int)) (by decide) rfl (Nat.le_of_ble_eq_true rfl) ?_
  intro p e s m below meth c hx hb hr hts hown hlocks hml htab hv ls hl
  obtain ⟨hP, hK, hZ⟩ := hv
  have hown : s.vm.findClass RX4 = some m.cls := hown
  have hout : ∀ (k : Nat), ∀ x ∈ c.exceptionTable.toList, covers x k = false := fun k x h => (htab x h).elim
  have hl : lv_has ls 4 [(0, .ref h0), (1, .int x)] := hl
  refine lv_aload_n hx hb dX4_make_0 rfl (lv_at hl 0 rfl) ?_
  refine lv_iload_n hx hb dX4_make_1 rfl (lv_at hl 1 rfl) ?_
  refine cx_only (vx_runV (As := [.int x]) (rest := []) ⟨hx, hb, hml, hown, hts⟩ (tX4_controlAt l hlt dd cI cZ cR cJ h0 q1 q2 q3 qs qh x hbad) (cwV 1 hts gX4_make_X4_controlAt rfl rfl rfl (by decide +kernel) ⟨Nat.le_of_ble_eq_true rfl, Nat.le_of_ble_eq_true rfl⟩) (pv_x (A := fun q => s.heap.size ≤ q) hK hP hZ (fun _ h => h) 0 rfl (ci := 4) rfl [0] rfl) rfl rfl hl.1 rfl (lv_room (Nat.le_of_ble_eq_true rfl)) dX4_make_2 ⟨Nat.le_of_ble_eq_true rfl, Nat.le_of_ble_eq_true rfl⟩) (fun ce q9 H1 h1 h2 h3 h4 h5 => ?_)
  exact vx_out (hout _) hlocks h3 h4 h5 (fun t ht hv9 => ⟨rfl, by rw [ht]; exact h1, fun q h => by rw [ht]; exact h2 q h⟩) (fun z h => nomatch h) (Nat.le_refl 1) (Nat.le_refl 6)

set_option maxHeartbeats 4000000 in
set_option maxRecDepth 100000 in
theorem tX4_close_1 (l : Launch) (hlt : l.stackTraces = false) (dd : va_G) (cI cZ cR cJ : ClassId) (h0 : Nat) (q1 : Nat) (q2 : Nat) (q3 : Nat) (qs : Nat) (qh : Nat) (x : Int32) (hbad : x < 0 ∨ ¬ x < nI 4) : vx_Met l yX4_close wsX4_close ({ frames := 8, cells := 1, slots := 6, locals := 123 }) (va_Pc [.ref h0, .int x] (qx dd cI cZ cR cJ [(h0, .inr (4, [.ref q1, .ref q2, .ref q3, .ref qs, .ref qh]))])) QcNo (xcO iobN) 1 6 (fun _ => False) := by
  refine mk_thr (cc := cX4_close) (maxL := 3) (ret := (some .int)) (by decide) rfl (Nat.le_of_ble_eq_true rfl) ?_
  intro p e s m below meth c hx hb hr hts hown hlocks hml htab hv ls hl
  obtain ⟨hP, hK, hZ⟩ := hv
  have hown : s.vm.findClass RX4 = some m.cls := hown
  have hout : ∀ (k : Nat), ∀ x ∈ c.exceptionTable.toList, covers x k = false := fun k x h => (htab x h).elim
  have hl : lv_has ls 3 [(0, .ref h0), (1, .int x)] := hl
  refine lv_aload_n hx hb dX4_close_0 rfl (lv_at hl 0 rfl) ?_
  refine lv_iload_n hx hb dX4_close_1 rfl (lv_at hl 1 rfl) ?_
  refine cx_only (vx_runV (As := [.int x]) (rest := []) ⟨hx, hb, hml, hown, hts⟩ (tX4_controlAt l hlt dd cI cZ cR cJ h0 q1 q2 q3 qs qh x hbad) (cwV 1 hts gX4_close_X4_controlAt rfl rfl rfl (by decide +kernel) ⟨Nat.le_of_ble_eq_true rfl, Nat.le_of_ble_eq_true rfl⟩) (pv_x (A := fun q => s.heap.size ≤ q) hK hP hZ (fun _ h => h) 0 rfl (ci := 4) rfl [0] rfl) rfl rfl hl.1 rfl (lv_room (Nat.le_of_ble_eq_true rfl)) dX4_close_2 ⟨Nat.le_of_ble_eq_true rfl, Nat.le_of_ble_eq_true rfl⟩) (fun ce q9 H1 h1 h2 h3 h4 h5 => ?_)
  exact vx_out (hout _) hlocks h3 h4 h5 (fun t ht hv9 => ⟨rfl, by rw [ht]; exact h1, fun q h => by rw [ht]; exact h2 q h⟩) (fun z h => nomatch h) (Nat.le_refl 1) (Nat.le_refl 6)

set_option maxHeartbeats 4000000 in
set_option maxRecDepth 100000 in
theorem tX4_erase_1 (l : Launch) (hlt : l.stackTraces = false) (dd : va_G) (cI cZ cR cJ : ClassId) (h0 : Nat) (q1 : Nat) (q2 : Nat) (q3 : Nat) (qs : Nat) (qh : Nat) (x : Int32) (hbad : x < 0 ∨ ¬ x < nI 4) : vx_Met l yX4_erase wsX4_erase ({ frames := 8, cells := 1, slots := 6, locals := 123 }) (va_Pc [.ref h0, .int x] (qx dd cI cZ cR cJ [(h0, .inr (4, [.ref q1, .ref q2, .ref q3, .ref qs, .ref qh]))])) QcNo (xcO iobN) 1 6 (fun _ => False) := by
  refine mk_thr (cc := cX4_erase) (maxL := 5) (ret := (some .int)) (by decide) rfl (Nat.le_of_ble_eq_true rfl) ?_
  intro p e s m below meth c hx hb hr hts hown hlocks hml htab hv ls hl
  obtain ⟨hP, hK, hZ⟩ := hv
  have hown : s.vm.findClass RX4 = some m.cls := hown
  have hout : ∀ (k : Nat), ∀ x ∈ c.exceptionTable.toList, covers x k = false := fun k x h => (htab x h).elim
  have hl : lv_has ls 5 [(0, .ref h0), (1, .int x)] := hl
  refine lv_aload_n hx hb dX4_erase_0 rfl (lv_at hl 0 rfl) ?_
  refine lv_iload_n hx hb dX4_erase_1 rfl (lv_at hl 1 rfl) ?_
  refine cx_only (vx_runV (As := [.int x]) (rest := []) ⟨hx, hb, hml, hown, hts⟩ (tX4_controlAt l hlt dd cI cZ cR cJ h0 q1 q2 q3 qs qh x hbad) (cwV 1 hts gX4_erase_X4_controlAt rfl rfl rfl (by decide +kernel) ⟨Nat.le_of_ble_eq_true rfl, Nat.le_of_ble_eq_true rfl⟩) (pv_x (A := fun q => s.heap.size ≤ q) hK hP hZ (fun _ h => h) 0 rfl (ci := 4) rfl [0] rfl) rfl rfl hl.1 rfl (lv_room (Nat.le_of_ble_eq_true rfl)) dX4_erase_2 ⟨Nat.le_of_ble_eq_true rfl, Nat.le_of_ble_eq_true rfl⟩) (fun ce q9 H1 h1 h2 h3 h4 h5 => ?_)
  exact vx_out (hout _) hlocks h3 h4 h5 (fun t ht hv9 => ⟨rfl, by rw [ht]; exact h1, fun q h => by rw [ht]; exact h2 q h⟩) (fun z h => nomatch h) (Nat.le_refl 1) (Nat.le_refl 6)

set_option maxHeartbeats 4000000 in
set_option maxRecDepth 100000 in
theorem tX4_guard_1 (l : Launch) (hlt : l.stackTraces = false) (dd : va_G) (cI cZ cR cJ : ClassId) (h0 : Nat) (q1 : Nat) (q2 : Nat) (q3 : Nat) (qs : Nat) (qh : Nat) (x : Int32) (gd : Bool) (hbad : x < 0 ∨ ¬ x < nI 4) : vx_Met l yX4_guard wsX4_guard ({ frames := 8, cells := 1, slots := 6, locals := 123 }) (va_Pc [.ref h0, .int x, .int (bI gd)] (qx dd cI cZ cR cJ [(h0, .inr (4, [.ref q1, .ref q2, .ref q3, .ref qs, .ref qh]))])) QcNo (xcO iobN) 1 6 (fun _ => False) := by
  refine mk_thr (cc := cX4_guard) (maxL := 6) (ret := (some .int)) (by decide) rfl (Nat.le_of_ble_eq_true rfl) ?_
  intro p e s m below meth c hx hb hr hts hown hlocks hml htab hv ls hl
  obtain ⟨hP, hK, hZ⟩ := hv
  have hown : s.vm.findClass RX4 = some m.cls := hown
  have hout : ∀ (k : Nat), ∀ x ∈ c.exceptionTable.toList, covers x k = false := fun k x h => (htab x h).elim
  have hl : lv_has ls 6 [(0, .ref h0), (1, .int x), (2, .int (bI gd))] := hl
  refine lv_aload_n hx hb dX4_guard_0 rfl (lv_at hl 0 rfl) ?_
  refine lv_iload_n hx hb dX4_guard_1 rfl (lv_at hl 1 rfl) ?_
  refine cx_only (vx_runV (As := [.int x]) (rest := []) ⟨hx, hb, hml, hown, hts⟩ (tX4_controlAt l hlt dd cI cZ cR cJ h0 q1 q2 q3 qs qh x hbad) (cwV 1 hts gX4_guard_X4_controlAt rfl rfl rfl (by decide +kernel) ⟨Nat.le_of_ble_eq_true rfl, Nat.le_of_ble_eq_true rfl⟩) (pv_x (A := fun q => s.heap.size ≤ q) hK hP hZ (fun _ h => h) 0 rfl (ci := 4) rfl [0] rfl) rfl rfl hl.1 rfl (lv_room (Nat.le_of_ble_eq_true rfl)) dX4_guard_2 ⟨Nat.le_of_ble_eq_true rfl, Nat.le_of_ble_eq_true rfl⟩) (fun ce q9 H1 h1 h2 h3 h4 h5 => ?_)
  exact vx_out (hout _) hlocks h3 h4 h5 (fun t ht hv9 => ⟨rfl, by rw [ht]; exact h1, fun q h => by rw [ht]; exact h2 q h⟩) (fun z h => nomatch h) (Nat.le_refl 1) (Nat.le_refl 6)

set_option maxHeartbeats 4000000 in
set_option maxRecDepth 100000 in
theorem tX4_read_1 (l : Launch) (hlt : l.stackTraces = false) (dd : va_G) (cI cZ cR cJ : ClassId) (h0 : Nat) (q1 : Nat) (q2 : Nat) (q3 : Nat) (qs : Nat) (qh : Nat) (x : Int32) (hbad : x < 0 ∨ ¬ x < nI 4) : vx_Met l yX4_read wsX4_read ({ frames := 8, cells := 1, slots := 6, locals := 123 }) (va_Pc [.ref h0, .int x] (qx dd cI cZ cR cJ [(h0, .inr (4, [.ref q1, .ref q2, .ref q3, .ref qs, .ref qh]))])) QcNo (xcO iobN) 1 6 (fun _ => False) := by
  refine mk_thr (cc := cX4_read) (maxL := 2) (ret := (some .int)) (by decide) rfl (Nat.le_of_ble_eq_true rfl) ?_
  intro p e s m below meth c hx hb hr hts hown hlocks hml htab hv ls hl
  obtain ⟨hP, hK, hZ⟩ := hv
  have hown : s.vm.findClass RX4 = some m.cls := hown
  have hout : ∀ (k : Nat), ∀ x ∈ c.exceptionTable.toList, covers x k = false := fun k x h => (htab x h).elim
  have hl : lv_has ls 2 [(0, .ref h0), (1, .int x)] := hl
  refine lv_aload_n hx hb dX4_read_0 rfl (lv_at hl 0 rfl) ?_
  refine lv_aload_n hx hb dX4_read_1 rfl (lv_at hl 0 rfl) ?_
  refine lv_iload_n hx hb dX4_read_2 rfl (lv_at hl 1 rfl) ?_
  refine cx_only (vx_runV (As := [.int x]) (rest := [.ref h0]) ⟨hx, hb, hml, hown, hts⟩ (tX4_controlAt l hlt dd cI cZ cR cJ h0 q1 q2 q3 qs qh x hbad) (cwV 1 hts gX4_read_X4_controlAt rfl rfl rfl (by decide +kernel) ⟨Nat.le_of_ble_eq_true rfl, Nat.le_of_ble_eq_true rfl⟩) (pv_x (A := fun q => s.heap.size ≤ q) hK hP hZ (fun _ h => h) 0 rfl (ci := 4) rfl [0] rfl) rfl rfl hl.1 rfl (lv_room (Nat.le_of_ble_eq_true rfl)) dX4_read_3 ⟨Nat.le_of_ble_eq_true rfl, Nat.le_of_ble_eq_true rfl⟩) (fun ce q9 H1 h1 h2 h3 h4 h5 => ?_)
  exact vx_out (hout _) hlocks h3 h4 h5 (fun t ht hv9 => ⟨rfl, by rw [ht]; exact h1, fun q h => by rw [ht]; exact h2 q h⟩) (fun z h => nomatch h) (Nat.le_refl 1) (Nat.le_refl 6)

set_option maxHeartbeats 4000000 in
set_option maxRecDepth 100000 in
theorem tX4_write_1 (l : Launch) (hlt : l.stackTraces = false) (dd : va_G) (cI cZ cR cJ : ClassId) (h0 : Nat) (q1 : Nat) (q2 : Nat) (q3 : Nat) (qs : Nat) (qh : Nat) (x : Int32) (hbad : x < 0 ∨ ¬ x < nI 4) : vx_Met l yX4_write wsX4_write ({ frames := 8, cells := 1, slots := 6, locals := 123 }) (va_Pc [.ref h0, .int x] (qx dd cI cZ cR cJ [(h0, .inr (4, [.ref q1, .ref q2, .ref q3, .ref qs, .ref qh]))])) QcNo (xcO iobN) 1 6 (fun _ => False) := by
  refine mk_thr (cc := cX4_write) (maxL := 2) (ret := (some .int)) (by decide) rfl (Nat.le_of_ble_eq_true rfl) ?_
  intro p e s m below meth c hx hb hr hts hown hlocks hml htab hv ls hl
  obtain ⟨hP, hK, hZ⟩ := hv
  have hown : s.vm.findClass RX4 = some m.cls := hown
  have hout : ∀ (k : Nat), ∀ x ∈ c.exceptionTable.toList, covers x k = false := fun k x h => (htab x h).elim
  have hl : lv_has ls 2 [(0, .ref h0), (1, .int x)] := hl
  refine lv_aload_n hx hb dX4_write_0 rfl (lv_at hl 0 rfl) ?_
  refine lv_aload_n hx hb dX4_write_1 rfl (lv_at hl 0 rfl) ?_
  refine lv_iload_n hx hb dX4_write_2 rfl (lv_at hl 1 rfl) ?_
  refine cx_only (vx_runV (As := [.int x]) (rest := [.ref h0]) ⟨hx, hb, hml, hown, hts⟩ (tX4_controlAt l hlt dd cI cZ cR cJ h0 q1 q2 q3 qs qh x hbad) (cwV 1 hts gX4_write_X4_controlAt rfl rfl rfl (by decide +kernel) ⟨Nat.le_of_ble_eq_true rfl, Nat.le_of_ble_eq_true rfl⟩) (pv_x (A := fun q => s.heap.size ≤ q) hK hP hZ (fun _ h => h) 0 rfl (ci := 4) rfl [0] rfl) rfl rfl hl.1 rfl (lv_room (Nat.le_of_ble_eq_true rfl)) dX4_write_3 ⟨Nat.le_of_ble_eq_true rfl, Nat.le_of_ble_eq_true rfl⟩) (fun ce q9 H1 h1 h2 h3 h4 h5 => ?_)
  exact vx_out (hout _) hlocks h3 h4 h5 (fun t ht hv9 => ⟨rfl, by rw [ht]; exact h1, fun q h => by rw [ht]; exact h2 q h⟩) (fun z h => nomatch h) (Nat.le_refl 1) (Nat.le_refl 6)

set_option maxHeartbeats 4000000 in
set_option maxRecDepth 100000 in
theorem tX4_size_1 (l : Launch) (hlt : l.stackTraces = false) (dd : va_G) (cI cZ cR cJ : ClassId) (h0 : Nat) (q1 : Nat) (q2 : Nat) (q3 : Nat) (qs : Nat) (qh : Nat) (x : Int32) (hbad : x < 0 ∨ ¬ x < nI 4) : vx_Met l yX4_size wsX4_size ({ frames := 8, cells := 1, slots := 6, locals := 123 }) (va_Pc [.ref h0, .int x] (qx dd cI cZ cR cJ [(h0, .inr (4, [.ref q1, .ref q2, .ref q3, .ref qs, .ref qh]))])) QcNo (xcO iobN) 1 6 (fun _ => False) := by
  refine mk_thr (cc := cX4_size) (maxL := 2) (ret := (some .int)) (by decide) rfl (Nat.le_of_ble_eq_true rfl) ?_
  intro p e s m below meth c hx hb hr hts hown hlocks hml htab hv ls hl
  obtain ⟨hP, hK, hZ⟩ := hv
  have hown : s.vm.findClass RX4 = some m.cls := hown
  have hout : ∀ (k : Nat), ∀ x ∈ c.exceptionTable.toList, covers x k = false := fun k x h => (htab x h).elim
  have hl : lv_has ls 2 [(0, .ref h0), (1, .int x)] := hl
  have hf_21 := hts (.fieldLink RX4 21 "RecordSystem" "directory" "LRecordSystem$Directory;") (by decide +kernel)
  have hin_X4 : ∀ w ∈ wsX40, w ∈ wsX4_size := by decide +kernel
  refine lv_aload_n hx hb dX4_size_0 rfl (lv_at hl 0 rfl) ?_
  refine va_get (D := dd) (ci := 4) (v := .ref q2) (C := RX4) (T := TX4) (N := 5) hx hb hts hin_X4 hown hK.1 hP 0 rfl rfl 1 (by decide) hf_21 (fun _ h9 => h9) rfl dX4_size_1 ?_
  refine lv_aload_n hx hb dX4_size_4 rfl (lv_at hl 0 rfl) ?_
  refine lv_iload_n hx hb dX4_size_5 rfl (lv_at hl 1 rfl) ?_
  refine cx_only (vx_runV (As := [.int x]) (rest := [.ref q2]) ⟨hx, hb, hml, hown, hts⟩ (tX4_controlAt l hlt dd cI cZ cR cJ h0 q1 q2 q3 qs qh x hbad) (cwV 1 hts gX4_size_X4_controlAt rfl rfl rfl (by decide +kernel) ⟨Nat.le_of_ble_eq_true rfl, Nat.le_of_ble_eq_true rfl⟩) (pv_x (A := fun q => s.heap.size ≤ q) hK hP hZ (fun _ h => h) 0 rfl (ci := 4) rfl [0] rfl) rfl rfl hl.1 rfl (lv_room (Nat.le_of_ble_eq_true rfl)) dX4_size_6 ⟨Nat.le_of_ble_eq_true rfl, Nat.le_of_ble_eq_true rfl⟩) (fun ce q9 H1 h1 h2 h3 h4 h5 => ?_)
  exact vx_out (hout _) hlocks h3 h4 h5 (fun t ht hv9 => ⟨rfl, by rw [ht]; exact h1, fun q h => by rw [ht]; exact h2 q h⟩) (fun z h => nomatch h) (Nat.le_refl 1) (Nat.le_refl 6)

set_option maxHeartbeats 4000000 in
set_option maxRecDepth 100000 in
theorem tX4_search_1 (l : Launch) (hlt : l.stackTraces = false) (dd : va_G) (cI cZ cR cJ : ClassId) (h0 : Nat) (q1 : Nat) (q2 : Nat) (q3 : Nat) (qs : Nat) (qh : Nat) (x : Int32) (y : Int32) (hbad : x < 0 ∨ ¬ x < nI 4) : vx_Met l yX4_search wsX4_search ({ frames := 8, cells := 1, slots := 6, locals := 123 }) (va_Pc [.ref h0, .int x, .int y] (qx dd cI cZ cR cJ [(h0, .inr (4, [.ref q1, .ref q2, .ref q3, .ref qs, .ref qh]))])) QcNo (xcO iobN) 1 6 (fun _ => False) := by
  refine mk_thr (cc := cX4_search) (maxL := 4) (ret := (some .int)) (by decide) rfl (Nat.le_of_ble_eq_true rfl) ?_
  intro p e s m below meth c hx hb hr hts hown hlocks hml htab hv ls hl
  obtain ⟨hP, hK, hZ⟩ := hv
  have hown : s.vm.findClass RX4 = some m.cls := hown
  have hout : ∀ (k : Nat), ∀ x ∈ c.exceptionTable.toList, covers x k = false := fun k x h => (htab x h).elim
  have hl : lv_has ls 4 [(0, .ref h0), (1, .int x), (2, .int y)] := hl
  refine lv_aload_n hx hb dX4_search_0 rfl (lv_at hl 0 rfl) ?_
  refine lv_iload_n hx hb dX4_search_1 rfl (lv_at hl 1 rfl) ?_
  refine cx_only (vx_runV (As := [.int x]) (rest := []) ⟨hx, hb, hml, hown, hts⟩ (tX4_controlAt l hlt dd cI cZ cR cJ h0 q1 q2 q3 qs qh x hbad) (cwV 1 hts gX4_search_X4_controlAt rfl rfl rfl (by decide +kernel) ⟨Nat.le_of_ble_eq_true rfl, Nat.le_of_ble_eq_true rfl⟩) (pv_x (A := fun q => s.heap.size ≤ q) hK hP hZ (fun _ h => h) 0 rfl (ci := 4) rfl [0] rfl) rfl rfl hl.1 rfl (lv_room (Nat.le_of_ble_eq_true rfl)) dX4_search_2 ⟨Nat.le_of_ble_eq_true rfl, Nat.le_of_ble_eq_true rfl⟩) (fun ce q9 H1 h1 h2 h3 h4 h5 => ?_)
  exact vx_out (hout _) hlocks h3 h4 h5 (fun t ht hv9 => ⟨rfl, by rw [ht]; exact h1, fun q h => by rw [ht]; exact h2 q h⟩) (fun z h => nomatch h) (Nat.le_refl 1) (Nat.le_refl 6)

set_option maxHeartbeats 4000000 in
set_option maxRecDepth 100000 in
theorem tX4_at_1 (l : Launch) (hlt : l.stackTraces = false) (dd : va_G) (cI cZ cR cJ : ClassId) (h0 : Nat) (q1 : Nat) (q2 : Nat) (q3 : Nat) (qs : Nat) (qh : Nat) (x : Int32) (y : Int32) (puts : Bool) (hbad : x < 0 ∨ ¬ x < nI 4) : vx_Met l yX4_at wsX4_at ({ frames := 8, cells := 1, slots := 6, locals := 123 }) (va_Pc [.ref h0, .int x, .int y, .int (bI puts)] (qx dd cI cZ cR cJ [(h0, .inr (4, [.ref q1, .ref q2, .ref q3, .ref qs, .ref qh]))])) QcNo (xcO iobN) 1 6 (fun _ => False) := by
  refine mk_thr (cc := cX4_at) (maxL := 8) (ret := (some .int)) (by decide) rfl (Nat.le_of_ble_eq_true rfl) ?_
  intro p e s m below meth c hx hb hr hts hown hlocks hml htab hv ls hl
  obtain ⟨hP, hK, hZ⟩ := hv
  have hown : s.vm.findClass RX4 = some m.cls := hown
  have hout : ∀ (k : Nat), ∀ x ∈ c.exceptionTable.toList, covers x k = false := fun k x h => (htab x h).elim
  have hl : lv_has ls 8 [(0, .ref h0), (1, .int x), (2, .int y), (3, .int (bI puts))] := hl
  refine lv_aload_n hx hb dX4_at_0 rfl (lv_at hl 0 rfl) ?_
  refine lv_iload_n hx hb dX4_at_1 rfl (lv_at hl 1 rfl) ?_
  refine cx_only (vx_runV (As := [.int x]) (rest := []) ⟨hx, hb, hml, hown, hts⟩ (tX4_controlAt l hlt dd cI cZ cR cJ h0 q1 q2 q3 qs qh x hbad) (cwV 1 hts gX4_at_X4_controlAt rfl rfl rfl (by decide +kernel) ⟨Nat.le_of_ble_eq_true rfl, Nat.le_of_ble_eq_true rfl⟩) (pv_x (A := fun q => s.heap.size ≤ q) hK hP hZ (fun _ h => h) 0 rfl (ci := 4) rfl [0] rfl) rfl rfl hl.1 rfl (lv_room (Nat.le_of_ble_eq_true rfl)) dX4_at_2 ⟨Nat.le_of_ble_eq_true rfl, Nat.le_of_ble_eq_true rfl⟩) (fun ce q9 H1 h1 h2 h3 h4 h5 => ?_)
  exact vx_out (hout _) hlocks h3 h4 h5 (fun t ht hv9 => ⟨rfl, by rw [ht]; exact h1, fun q h => by rw [ht]; exact h2 q h⟩) (fun z h => nomatch h) (Nat.le_refl 1) (Nat.le_refl 6)

set_option maxHeartbeats 4000000 in
set_option maxRecDepth 100000 in
theorem tX4_has_1 (l : Launch) (hlt : l.stackTraces = false) (dd : va_G) (cI cZ cR cJ : ClassId) (h0 : Nat) (q1 : Nat) (q2 : Nat) (q3 : Nat) (qs : Nat) (qh : Nat) (x : Int32) (y : Int32) (hbad : x < 0 ∨ ¬ x < nI 4) : vx_Met l yX4_has wsX4_has ({ frames := 8, cells := 1, slots := 6, locals := 123 }) (va_Pc [.ref h0, .int x, .int y] (qx dd cI cZ cR cJ [(h0, .inr (4, [.ref q1, .ref q2, .ref q3, .ref qs, .ref qh]))])) QcNo (xcO iobN) 1 6 (fun _ => False) := by
  refine mk_thr (cc := cX4_has) (maxL := 4) (ret := (some .int)) (by decide) rfl (Nat.le_of_ble_eq_true rfl) ?_
  intro p e s m below meth c hx hb hr hts hown hlocks hml htab hv ls hl
  obtain ⟨hP, hK, hZ⟩ := hv
  have hown : s.vm.findClass RX4 = some m.cls := hown
  have hout : ∀ (k : Nat), ∀ x ∈ c.exceptionTable.toList, covers x k = false := fun k x h => (htab x h).elim
  have hl : lv_has ls 4 [(0, .ref h0), (1, .int x), (2, .int y)] := hl
  refine lv_aload_n hx hb dX4_has_0 rfl (lv_at hl 0 rfl) ?_
  refine lv_iload_n hx hb dX4_has_1 rfl (lv_at hl 1 rfl) ?_
  refine cx_only (vx_runV (As := [.int x]) (rest := []) ⟨hx, hb, hml, hown, hts⟩ (tX4_controlAt l hlt dd cI cZ cR cJ h0 q1 q2 q3 qs qh x hbad) (cwV 1 hts gX4_has_X4_controlAt rfl rfl rfl (by decide +kernel) ⟨Nat.le_of_ble_eq_true rfl, Nat.le_of_ble_eq_true rfl⟩) (pv_x (A := fun q => s.heap.size ≤ q) hK hP hZ (fun _ h => h) 0 rfl (ci := 4) rfl [0] rfl) rfl rfl hl.1 rfl (lv_room (Nat.le_of_ble_eq_true rfl)) dX4_has_2 ⟨Nat.le_of_ble_eq_true rfl, Nat.le_of_ble_eq_true rfl⟩) (fun ce q9 H1 h1 h2 h3 h4 h5 => ?_)
  exact vx_out (hout _) hlocks h3 h4 h5 (fun t ht hv9 => ⟨rfl, by rw [ht]; exact h1, fun q h => by rw [ht]; exact h2 q h⟩) (fun z h => nomatch h) (Nat.le_refl 1) (Nat.le_refl 6)

set_option maxHeartbeats 4000000 in
set_option maxRecDepth 100000 in
theorem tX4_rename_1 (l : Launch) (hlt : l.stackTraces = false) (dd : va_G) (cI cZ cR cJ : ClassId) (h0 : Nat) (q1 : Nat) (q2 : Nat) (q3 : Nat) (qs : Nat) (qh : Nat) (x : Int32) (y : Int32) (hbad : x < 0 ∨ ¬ x < nI 4) : vx_Met l yX4_rename wsX4_rename ({ frames := 8, cells := 1, slots := 6, locals := 123 }) (va_Pc [.ref h0, .int x, .int y] (qx dd cI cZ cR cJ [(h0, .inr (4, [.ref q1, .ref q2, .ref q3, .ref qs, .ref qh]))])) QcNo (xcO iobN) 1 6 (fun _ => False) := by
  refine mk_thr (cc := cX4_rename) (maxL := 7) (ret := (some .int)) (by decide) rfl (Nat.le_of_ble_eq_true rfl) ?_
  intro p e s m below meth c hx hb hr hts hown hlocks hml htab hv ls hl
  obtain ⟨hP, hK, hZ⟩ := hv
  have hown : s.vm.findClass RX4 = some m.cls := hown
  have hout : ∀ (k : Nat), ∀ x ∈ c.exceptionTable.toList, covers x k = false := fun k x h => (htab x h).elim
  have hl : lv_has ls 7 [(0, .ref h0), (1, .int x), (2, .int y)] := hl
  refine lv_aload_n hx hb dX4_rename_0 rfl (lv_at hl 0 rfl) ?_
  refine lv_iload_n hx hb dX4_rename_1 rfl (lv_at hl 1 rfl) ?_
  refine cx_only (vx_runV (As := [.int x]) (rest := []) ⟨hx, hb, hml, hown, hts⟩ (tX4_controlAt l hlt dd cI cZ cR cJ h0 q1 q2 q3 qs qh x hbad) (cwV 1 hts gX4_rename_X4_controlAt rfl rfl rfl (by decide +kernel) ⟨Nat.le_of_ble_eq_true rfl, Nat.le_of_ble_eq_true rfl⟩) (pv_x (A := fun q => s.heap.size ≤ q) hK hP hZ (fun _ h => h) 0 rfl (ci := 4) rfl [0] rfl) rfl rfl hl.1 rfl (lv_room (Nat.le_of_ble_eq_true rfl)) dX4_rename_2 ⟨Nat.le_of_ble_eq_true rfl, Nat.le_of_ble_eq_true rfl⟩) (fun ce q9 H1 h1 h2 h3 h4 h5 => ?_)
  exact vx_out (hout _) hlocks h3 h4 h5 (fun t ht hv9 => ⟨rfl, by rw [ht]; exact h1, fun q h => by rw [ht]; exact h2 q h⟩) (fun z h => nomatch h) (Nat.le_refl 1) (Nat.le_refl 6)

set_option maxHeartbeats 4000000 in
set_option maxRecDepth 100000 in
theorem tX4_rename_2 (l : Launch) (hlt : l.stackTraces = false) (dd : va_G) (cI cZ cR cJ : ClassId) (h0 : Nat) (q1 : Nat) (q2 : Nat) (q3 : Nat) (qs : Nat) (qh : Nat) (cf : Nat → Option Nat) (ci : Nat) (h5 : Nat) (x : Int32) (hci : ci < 4) (hcf : cf ci = some h5) (hbad : x < 0 ∨ ¬ x < nI 4) : vx_Met l yX4_rename wsX4_rename ({ frames := 8, cells := 1, slots := 6, locals := 123 }) (va_Pc [.ref h0, .int (nI ci), .int x] (qx dd cI cZ cR cJ [(h0, .inr (4, [.ref q1, .ref q2, .ref q3, .ref qs, .ref qh])), (qs, .inl (cR, 4, .inr (.inr (.inr (.inr cf)))))])) QcNo (xcO iobN) 1 6 (fun _ => False) := by
  refine mk_thr (cc := cX4_rename) (maxL := 7) (ret := (some .int)) (by decide) rfl (Nat.le_of_ble_eq_true rfl) ?_
  intro p e s m below meth c hx hb hr hts hown hlocks hml htab hv ls hl
  obtain ⟨hP, hK, hZ⟩ := hv
  have hown : s.vm.findClass RX4 = some m.cls := hown
  have hout : ∀ (k : Nat), ∀ x ∈ c.exceptionTable.toList, covers x k = false := fun k x h => (htab x h).elim
  have hl : lv_has ls 7 [(0, .ref h0), (1, .int (nI ci)), (2, .int x)] := hl
  refine lv_aload_n hx hb dX4_rename_0 rfl (lv_at hl 0 rfl) ?_
  refine lv_iload_n hx hb dX4_rename_1 rfl (lv_at hl 1 rfl) ?_
  refine cr_r (va_runV (As := [.int (nI ci)]) (rest := []) ⟨hx, hb, hml, hown, hts⟩ (kX4_controlAt l dd cI cZ cR cJ h0 q1 q2 q3 qs qh cf ci h5 (by omega) (by omega)) (cwV 1 hts gX4_rename_X4_controlAt rfl rfl rfl (by decide +kernel) ⟨Nat.le_of_ble_eq_true rfl, Nat.le_of_ble_eq_true rfl⟩) (pv_c hK hP 0 rfl (ci := 4) rfl [0, 1] rfl) rfl rfl hl.1 rfl (lv_room (Nat.le_of_ble_eq_true rfl)) dX4_rename_2 ⟨Nat.zero_le _, Nat.zero_le _⟩) ?_
  refine lv_astore_n (lv' := [(3, .ref h5), (0, .ref h0), (1, .int (nI ci)), (2, .int x)]) hx hb dX4_rename_5 rfl hl (by decide) rfl (fun ls hl => ?_)
  refine lv_aload_n hx hb dX4_rename_6 rfl (lv_at hl 1 rfl) ?_
  refine lv_iload_n hx hb dX4_rename_7 rfl (lv_at hl 3 rfl) ?_
  refine cx_only (vx_runV (As := [.int x]) (rest := []) ⟨hx, hb, hml, hown, hts⟩ (tX4_controlAt l hlt dd cI cZ cR cJ h0 q1 q2 q3 qs qh x hbad) (cwV 1 hts gX4_rename_X4_controlAt rfl rfl rfl (by decide +kernel) ⟨Nat.le_of_ble_eq_true rfl, Nat.le_of_ble_eq_true rfl⟩) (pv_x (A := fun q => s.heap.size ≤ q) hK hP hZ (fun _ h => h) 0 rfl (ci := 4) rfl [0] rfl) rfl rfl hl.1 rfl (lv_room (Nat.le_of_ble_eq_true rfl)) dX4_rename_8 ⟨Nat.le_of_ble_eq_true rfl, Nat.le_of_ble_eq_true rfl⟩) (fun ce q9 H1 h1 h2 h3 h4 h5 => ?_)
  exact vx_out (hout _) hlocks h3 h4 h5 (fun t ht hv9 => ⟨rfl, by rw [ht]; exact h1, fun q h => by rw [ht]; exact h2 q h⟩) (fun z h => nomatch h) (Nat.le_refl 1) (Nat.le_refl 6)

set_option maxHeartbeats 4000000 in
set_option maxRecDepth 100000 in
theorem tX4_search_2 (l : Launch) (hlt : l.stackTraces = false) (dd : va_G) (cI cZ cR cJ : ClassId) (h0 : Nat) (q1 : Nat) (q2 : Nat) (q3 : Nat) (qs : Nat) (qh : Nat) (cf : Nat → Option Nat) (ci : Nat) (h5 : Nat) (x : Int32) (hci : ci < 4) (hcf : cf ci = some h5) (hbad : x < 0 ∨ ¬ x ≤ nI 31) : vx_Met l yX4_search wsX4_search ({ frames := 7, cells := 1, slots := 6, locals := 102 }) (va_Pc [.ref h0, .int (nI ci), .int x] (qx dd cI cZ cR cJ [(h0, .inr (4, [.ref q1, .ref q2, .ref q3, .ref qs, .ref qh])), (qs, .inl (cR, 4, .inr (.inr (.inr (.inr cf)))))])) QcNo (xcO iarN) 1 6 (fun _ => False) := by
  refine mk_thr (cc := cX4_search) (maxL := 4) (ret := (some .int)) (by decide) rfl (Nat.le_of_ble_eq_true rfl) ?_
  intro p e s m below meth c hx hb hr hts hown hlocks hml htab hv ls hl
  obtain ⟨hP, hK, hZ⟩ := hv
  have hown : s.vm.findClass RX4 = some m.cls := hown
  have hout : ∀ (k : Nat), ∀ x ∈ c.exceptionTable.toList, covers x k = false := fun k x h => (htab x h).elim
  have hl : lv_has ls 4 [(0, .ref h0), (1, .int (nI ci)), (2, .int x)] := hl
  refine lv_aload_n hx hb dX4_search_0 rfl (lv_at hl 0 rfl) ?_
  refine lv_iload_n hx hb dX4_search_1 rfl (lv_at hl 1 rfl) ?_
  refine cr_r (va_runV (As := [.int (nI ci)]) (rest := []) ⟨hx, hb, hml, hown, hts⟩ (kX4_controlAt l dd cI cZ cR cJ h0 q1 q2 q3 qs qh cf ci h5 (by omega) (by omega)) (cwV 1 hts gX4_search_X4_controlAt rfl rfl rfl (by decide +kernel) ⟨Nat.le_of_ble_eq_true rfl, Nat.le_of_ble_eq_true rfl⟩) (pv_c hK hP 0 rfl (ci := 4) rfl [0, 1] rfl) rfl rfl hl.1 rfl (lv_room (Nat.le_of_ble_eq_true rfl)) dX4_search_2 ⟨Nat.zero_le _, Nat.zero_le _⟩) ?_
  refine lv_astore_n (lv' := [(3, .ref h5), (0, .ref h0), (1, .int (nI ci)), (2, .int x)]) hx hb dX4_search_5 rfl hl (by decide) rfl (fun ls hl => ?_)
  refine lv_iload_n hx hb dX4_search_6 rfl (lv_at hl 3 rfl) ?_
  refine lv_bipush (v := nI 31) hx hb dX4_search_7 (by decide) ?_
  refine cx_only (vx_runS (As := [.int x, .int (nI 31)]) (rest := []) ⟨hx, hb, hml, hown, hts⟩ (tX4_checkArgument l hlt dd cI cZ cR cJ x 31 hbad) (va_cwS 2 hts gX4_search_X4_checkArgument rfl rfl rfl (by decide +kernel) ⟨Nat.le_of_ble_eq_true rfl, Nat.le_of_ble_eq_true rfl⟩) (ps_x (A := fun q => s.heap.size ≤ q) hK hP hZ (fun _ h => h) [] rfl) rfl rfl hl.1 rfl (lv_room (Nat.le_of_ble_eq_true rfl)) dX4_search_9 ⟨Nat.le_of_ble_eq_true rfl, Nat.le_of_ble_eq_true rfl⟩) (fun ce q9 H1 h1 h2 h3 h4 h5 => ?_)
  exact vx_out (hout _) hlocks h3 h4 h5 (fun t ht hv9 => ⟨rfl, by rw [ht]; exact h1, fun q h => by rw [ht]; exact h2 q h⟩) (fun z h => nomatch h) (Nat.le_refl 1) (Nat.le_refl 6)

set_option maxHeartbeats 4000000 in
set_option maxRecDepth 100000 in
theorem tX4_at_2 (l : Launch) (hlt : l.stackTraces = false) (dd : va_G) (cI cZ cR cJ : ClassId) (h0 : Nat) (q1 : Nat) (q2 : Nat) (q3 : Nat) (qs : Nat) (qh : Nat) (cf : Nat → Option Nat) (ci : Nat) (h5 : Nat) (x : Int32) (puts : Bool) (hci : ci < 4) (hcf : cf ci = some h5) (hbad : x < 0 ∨ ¬ x ≤ nI 100000) : vx_Met l yX4_at wsX4_at ({ frames := 7, cells := 1, slots := 6, locals := 102 }) (va_Pc [.ref h0, .int (nI ci), .int x, .int (bI puts)] (qx dd cI cZ cR cJ [(h0, .inr (4, [.ref q1, .ref q2, .ref q3, .ref qs, .ref qh])), (qs, .inl (cR, 4, .inr (.inr (.inr (.inr cf)))))])) QcNo (xcO iarN) 1 6 (fun _ => False) := by
  refine mk_thr (cc := cX4_at) (maxL := 8) (ret := (some .int)) (by decide) rfl (Nat.le_of_ble_eq_true rfl) ?_
  intro p e s m below meth c hx hb hr hts hown hlocks hml htab hv ls hl
  obtain ⟨hP, hK, hZ⟩ := hv
  have hown : s.vm.findClass RX4 = some m.cls := hown
  have hout : ∀ (k : Nat), ∀ x ∈ c.exceptionTable.toList, covers x k = false := fun k x h => (htab x h).elim
  have hl : lv_has ls 8 [(0, .ref h0), (1, .int (nI ci)), (2, .int x), (3, .int (bI puts))] := hl
  refine lv_aload_n hx hb dX4_at_0 rfl (lv_at hl 0 rfl) ?_
  refine lv_iload_n hx hb dX4_at_1 rfl (lv_at hl 1 rfl) ?_
  refine cr_r (va_runV (As := [.int (nI ci)]) (rest := []) ⟨hx, hb, hml, hown, hts⟩ (kX4_controlAt l dd cI cZ cR cJ h0 q1 q2 q3 qs qh cf ci h5 (by omega) (by omega)) (cwV 1 hts gX4_at_X4_controlAt rfl rfl rfl (by decide +kernel) ⟨Nat.le_of_ble_eq_true rfl, Nat.le_of_ble_eq_true rfl⟩) (pv_c hK hP 0 rfl (ci := 4) rfl [0, 1] rfl) rfl rfl hl.1 rfl (lv_room (Nat.le_of_ble_eq_true rfl)) dX4_at_2 ⟨Nat.zero_le _, Nat.zero_le _⟩) ?_
  refine lv_astore (lv' := [(4, .ref h5), (0, .ref h0), (1, .int (nI ci)), (2, .int x), (3, .int (bI puts))]) hx hb dX4_at_5 hl (by decide) rfl (fun ls hl => ?_)
  refine lv_iload_n hx hb dX4_at_7 rfl (lv_at hl 3 rfl) ?_
  refine lv_ldc (v := nI 100000) hx hb hown (hts (.constant RX4 133 100000) (by decide +kernel)) dX4_at_8 ?_
  refine cx_only (vx_runS (As := [.int x, .int (nI 100000)]) (rest := []) ⟨hx, hb, hml, hown, hts⟩ (tX4_checkArgument l hlt dd cI cZ cR cJ x 100000 hbad) (va_cwS 2 hts gX4_at_X4_checkArgument rfl rfl rfl (by decide +kernel) ⟨Nat.le_of_ble_eq_true rfl, Nat.le_of_ble_eq_true rfl⟩) (ps_x (A := fun q => s.heap.size ≤ q) hK hP hZ (fun _ h => h) [] rfl) rfl rfl hl.1 rfl (lv_room (Nat.le_of_ble_eq_true rfl)) dX4_at_10 ⟨Nat.le_of_ble_eq_true rfl, Nat.le_of_ble_eq_true rfl⟩) (fun ce q9 H1 h1 h2 h3 h4 h5 => ?_)
  exact vx_out (hout _) hlocks h3 h4 h5 (fun t ht hv9 => ⟨rfl, by rw [ht]; exact h1, fun q h => by rw [ht]; exact h2 q h⟩) (fun z h => nomatch h) (Nat.le_refl 1) (Nat.le_refl 6)

set_option maxHeartbeats 4000000 in
set_option maxRecDepth 100000 in
theorem tX4_has_2 (l : Launch) (hlt : l.stackTraces = false) (dd : va_G) (cI cZ cR cJ : ClassId) (h0 : Nat) (q1 : Nat) (q2 : Nat) (q3 : Nat) (qs : Nat) (qh : Nat) (cf : Nat → Option Nat) (ci : Nat) (h5 : Nat) (x : Int32) (hci : ci < 4) (hcf : cf ci = some h5) (hbad : x < 0 ∨ ¬ x ≤ nI 10) : vx_Met l yX4_has wsX4_has ({ frames := 7, cells := 1, slots := 6, locals := 102 }) (va_Pc [.ref h0, .int (nI ci), .int x] (qx dd cI cZ cR cJ [(h0, .inr (4, [.ref q1, .ref q2, .ref q3, .ref qs, .ref qh])), (qs, .inl (cR, 4, .inr (.inr (.inr (.inr cf)))))])) QcNo (xcO iarN) 1 6 (fun _ => False) := by
  refine mk_thr (cc := cX4_has) (maxL := 4) (ret := (some .int)) (by decide) rfl (Nat.le_of_ble_eq_true rfl) ?_
  intro p e s m below meth c hx hb hr hts hown hlocks hml htab hv ls hl
  obtain ⟨hP, hK, hZ⟩ := hv
  have hown : s.vm.findClass RX4 = some m.cls := hown
  have hout : ∀ (k : Nat), ∀ x ∈ c.exceptionTable.toList, covers x k = false := fun k x h => (htab x h).elim
  have hl : lv_has ls 4 [(0, .ref h0), (1, .int (nI ci)), (2, .int x)] := hl
  refine lv_aload_n hx hb dX4_has_0 rfl (lv_at hl 0 rfl) ?_
  refine lv_iload_n hx hb dX4_has_1 rfl (lv_at hl 1 rfl) ?_
  refine cr_r (va_runV (As := [.int (nI ci)]) (rest := []) ⟨hx, hb, hml, hown, hts⟩ (kX4_controlAt l dd cI cZ cR cJ h0 q1 q2 q3 qs qh cf ci h5 (by omega) (by omega)) (cwV 1 hts gX4_has_X4_controlAt rfl rfl rfl (by decide +kernel) ⟨Nat.le_of_ble_eq_true rfl, Nat.le_of_ble_eq_true rfl⟩) (pv_c hK hP 0 rfl (ci := 4) rfl [0, 1] rfl) rfl rfl hl.1 rfl (lv_room (Nat.le_of_ble_eq_true rfl)) dX4_has_2 ⟨Nat.zero_le _, Nat.zero_le _⟩) ?_
  refine lv_astore_n (lv' := [(3, .ref h5), (0, .ref h0), (1, .int (nI ci)), (2, .int x)]) hx hb dX4_has_5 rfl hl (by decide) rfl (fun ls hl => ?_)
  refine lv_iload_n hx hb dX4_has_6 rfl (lv_at hl 3 rfl) ?_
  refine lv_bipush (v := nI 10) hx hb dX4_has_7 (by decide) ?_
  refine cx_only (vx_runS (As := [.int x, .int (nI 10)]) (rest := []) ⟨hx, hb, hml, hown, hts⟩ (tX4_checkArgument l hlt dd cI cZ cR cJ x 10 hbad) (va_cwS 2 hts gX4_has_X4_checkArgument rfl rfl rfl (by decide +kernel) ⟨Nat.le_of_ble_eq_true rfl, Nat.le_of_ble_eq_true rfl⟩) (ps_x (A := fun q => s.heap.size ≤ q) hK hP hZ (fun _ h => h) [] rfl) rfl rfl hl.1 rfl (lv_room (Nat.le_of_ble_eq_true rfl)) dX4_has_9 ⟨Nat.le_of_ble_eq_true rfl, Nat.le_of_ble_eq_true rfl⟩) (fun ce q9 H1 h1 h2 h3 h4 h5 => ?_)
  exact vx_out (hout _) hlocks h3 h4 h5 (fun t ht hv9 => ⟨rfl, by rw [ht]; exact h1, fun q h => by rw [ht]; exact h2 q h⟩) (fun z h => nomatch h) (Nat.le_refl 1) (Nat.le_refl 6)

set_option maxHeartbeats 4000000 in
set_option maxRecDepth 100000 in
theorem tX4_login_1 (l : Launch) (hlt : l.stackTraces = false) (dd : va_G) (cI cZ cR cJ : ClassId) (h0 : Nat) (q1 : Nat) (q2 : Nat) (q3 : Nat) (qs : Nat) (qh : Nat) (x : Int32) (hbad : x < 0 ∨ ¬ x ≤ nI 15) : vx_Met l yX4_login wsX4_login ({ frames := 7, cells := 1, slots := 6, locals := 102 }) (va_Pc [.ref h0, .int x] (qx dd cI cZ cR cJ [(h0, .inr (4, [.ref q1, .ref q2, .ref q3, .ref qs, .ref qh]))])) QcNo (xcO iarN) 1 6 (fun _ => False) := by
  refine mk_thr (cc := cX4_login) (maxL := 3) (ret := (some .int)) (by decide) rfl (Nat.le_of_ble_eq_true rfl) ?_
  intro p e s m below meth c hx hb hr hts hown hlocks hml htab hv ls hl
  obtain ⟨hP, hK, hZ⟩ := hv
  have hown : s.vm.findClass RX4 = some m.cls := hown
  have hout : ∀ (k : Nat), ∀ x ∈ c.exceptionTable.toList, covers x k = false := fun k x h => (htab x h).elim
  have hl : lv_has ls 3 [(0, .ref h0), (1, .int x)] := hl
  refine lv_iload_n hx hb dX4_login_0 rfl (lv_at hl 1 rfl) ?_
  refine lv_bipush (v := nI 15) hx hb dX4_login_1 (by decide) ?_
  refine cx_only (vx_runS (As := [.int x, .int (nI 15)]) (rest := []) ⟨hx, hb, hml, hown, hts⟩ (tX4_checkArgument l hlt dd cI cZ cR cJ x 15 hbad) (va_cwS 2 hts gX4_login_X4_checkArgument rfl rfl rfl (by decide +kernel) ⟨Nat.le_of_ble_eq_true rfl, Nat.le_of_ble_eq_true rfl⟩) (ps_x (A := fun q => s.heap.size ≤ q) hK hP hZ (fun _ h => h) [] rfl) rfl rfl hl.1 rfl (lv_room (Nat.le_of_ble_eq_true rfl)) dX4_login_3 ⟨Nat.le_of_ble_eq_true rfl, Nat.le_of_ble_eq_true rfl⟩) (fun ce q9 H1 h1 h2 h3 h4 h5 => ?_)
  exact vx_out (hout _) hlocks h3 h4 h5 (fun t ht hv9 => ⟨rfl, by rw [ht]; exact h1, fun q h => by rw [ht]; exact h2 q h⟩) (fun z h => nomatch h) (Nat.le_refl 1) (Nat.le_refl 6)

set_option maxHeartbeats 4000000 in
set_option maxRecDepth 100000 in
theorem tX4_power_1 (l : Launch) (hlt : l.stackTraces = false) (dd : va_G) (cI cZ cR cJ : ClassId) (h0 : Nat) (q1 : Nat) (q2 : Nat) (q3 : Nat) (qs : Nat) (qh : Nat) (x : Int32) (hbad : x < 0 ∨ ¬ x ≤ nI 1000) : vx_Met l yX4_power wsX4_power ({ frames := 7, cells := 1, slots := 6, locals := 102 }) (va_Pc [.ref h0, .int x] (qx dd cI cZ cR cJ [(h0, .inr (4, [.ref q1, .ref q2, .ref q3, .ref qs, .ref qh]))])) QcNo (xcO iarN) 1 6 (fun _ => False) := by
  refine mk_thr (cc := cX4_power) (maxL := 2) (ret := none) (by decide) rfl (Nat.le_of_ble_eq_true rfl) ?_
  intro p e s m below meth c hx hb hr hts hown hlocks hml htab hv ls hl
  obtain ⟨hP, hK, hZ⟩ := hv
  have hown : s.vm.findClass RX4 = some m.cls := hown
  have hout : ∀ (k : Nat), ∀ x ∈ c.exceptionTable.toList, covers x k = false := fun k x h => (htab x h).elim
  have hl : lv_has ls 2 [(0, .ref h0), (1, .int x)] := hl
  refine lv_iload_n hx hb dX4_power_0 rfl (lv_at hl 1 rfl) ?_
  refine lv_sipush (v := nI 1000) hx hb dX4_power_1 (by decide) ?_
  refine cx_only (vx_runS (As := [.int x, .int (nI 1000)]) (rest := []) ⟨hx, hb, hml, hown, hts⟩ (tX4_checkArgument l hlt dd cI cZ cR cJ x 1000 hbad) (va_cwS 2 hts gX4_power_X4_checkArgument rfl rfl rfl (by decide +kernel) ⟨Nat.le_of_ble_eq_true rfl, Nat.le_of_ble_eq_true rfl⟩) (ps_x (A := fun q => s.heap.size ≤ q) hK hP hZ (fun _ h => h) [] rfl) rfl rfl hl.1 rfl (lv_room (Nat.le_of_ble_eq_true rfl)) dX4_power_4 ⟨Nat.le_of_ble_eq_true rfl, Nat.le_of_ble_eq_true rfl⟩) (fun ce q9 H1 h1 h2 h3 h4 h5 => ?_)
  exact vx_out (hout _) hlocks h3 h4 h5 (fun t ht hv9 => ⟨rfl, by rw [ht]; exact h1, fun q h => by rw [ht]; exact h2 q h⟩) (fun z h => nomatch h) (Nat.le_refl 1) (Nat.le_refl 6)

set_option maxHeartbeats 4000000 in
set_option maxRecDepth 100000 in
theorem tX4_told_1 (l : Launch) (hlt : l.stackTraces = false) (dd : va_G) (cI cZ cR cJ : ClassId) (h0 : Nat) (q1 : Nat) (q2 : Nat) (q3 : Nat) (qs : Nat) (qh : Nat) (x : Int32) (hbad : x < 0 ∨ ¬ x ≤ nI 3) : vx_Met l yX4_told wsX4_told ({ frames := 7, cells := 1, slots := 6, locals := 102 }) (va_Pc [.ref h0, .int x] (qx dd cI cZ cR cJ [(h0, .inr (4, [.ref q1, .ref q2, .ref q3, .ref qs, .ref qh]))])) QcNo (xcO iarN) 1 6 (fun _ => False) := by
  refine mk_thr (cc := cX4_told) (maxL := 2) (ret := (some .int)) (by decide) rfl (Nat.le_of_ble_eq_true rfl) ?_
  intro p e s m below meth c hx hb hr hts hown hlocks hml htab hv ls hl
  obtain ⟨hP, hK, hZ⟩ := hv
  have hown : s.vm.findClass RX4 = some m.cls := hown
  have hout : ∀ (k : Nat), ∀ x ∈ c.exceptionTable.toList, covers x k = false := fun k x h => (htab x h).elim
  have hl : lv_has ls 2 [(0, .ref h0), (1, .int x)] := hl
  refine lv_iload_n hx hb dX4_told_0 rfl (lv_at hl 1 rfl) ?_
  refine lv_iconst (v := nI 3) hx hb dX4_told_1 (by decide) ?_
  refine cx_only (vx_runS (As := [.int x, .int (nI 3)]) (rest := []) ⟨hx, hb, hml, hown, hts⟩ (tX4_checkArgument l hlt dd cI cZ cR cJ x 3 hbad) (va_cwS 2 hts gX4_told_X4_checkArgument rfl rfl rfl (by decide +kernel) ⟨Nat.le_of_ble_eq_true rfl, Nat.le_of_ble_eq_true rfl⟩) (ps_x (A := fun q => s.heap.size ≤ q) hK hP hZ (fun _ h => h) [] rfl) rfl rfl hl.1 rfl (lv_room (Nat.le_of_ble_eq_true rfl)) dX4_told_2 ⟨Nat.le_of_ble_eq_true rfl, Nat.le_of_ble_eq_true rfl⟩) (fun ce q9 H1 h1 h2 h3 h4 h5 => ?_)
  exact vx_out (hout _) hlocks h3 h4 h5 (fun t ht hv9 => ⟨rfl, by rw [ht]; exact h1, fun q h => by rw [ht]; exact h2 q h⟩) (fun z h => nomatch h) (Nat.le_refl 1) (Nat.le_refl 6)

set_option maxHeartbeats 4000000 in
set_option maxRecDepth 100000 in
theorem tX4_buffer_1 (l : Launch) (hlt : l.stackTraces = false) (dd : va_G) (cI cZ cR cJ : ClassId) (h0 : Nat) (q1 : Nat) (q2 : Nat) (q3 : Nat) (qs : Nat) (qh : Nat) (x : Int32) (hbad : x < 0 ∨ ¬ x < nI 2) : vx_Met l yX4_buffer wsX4_buffer ({ frames := 7, cells := 1, slots := 6, locals := 102 }) (va_Pc [.ref h0, .int x] (qx dd cI cZ cR cJ [(h0, .inr (4, [.ref q1, .ref q2, .ref q3, .ref qs, .ref qh]))])) QcNo (xcO iobN) 1 6 (fun _ => False) := by
  refine mk_thr (cc := cX4_buffer) (maxL := 5) (ret := (some .long)) (by decide) rfl (Nat.le_of_ble_eq_true rfl) ?_
  intro p e s m below meth c hx hb hr hts hown hlocks hml htab hv ls hl
  obtain ⟨hP, hK, hZ⟩ := hv
  have hown : s.vm.findClass RX4 = some m.cls := hown
  have hout : ∀ (k : Nat), ∀ x ∈ c.exceptionTable.toList, covers x k = false := fun k x h => (htab x h).elim
  have hl : lv_has ls 5 [(0, .ref h0), (1, .int x)] := hl
  refine lv_iload_n hx hb dX4_buffer_0 rfl (lv_at hl 1 rfl) ?_
  refine lv_iconst (v := nI 2) hx hb dX4_buffer_1 (by decide) ?_
  refine cx_only (vx_runS (As := [.int x, .int (nI 2)]) (rest := []) ⟨hx, hb, hml, hown, hts⟩ (tX4_checkIndex l hlt dd cI cZ cR cJ x 2 hbad) (va_cwS 2 hts gX4_buffer_X4_checkIndex rfl rfl rfl (by decide +kernel) ⟨Nat.le_of_ble_eq_true rfl, Nat.le_of_ble_eq_true rfl⟩) (ps_x (A := fun q => s.heap.size ≤ q) hK hP hZ (fun _ h => h) [] rfl) rfl rfl hl.1 rfl (lv_room (Nat.le_of_ble_eq_true rfl)) dX4_buffer_2 ⟨Nat.le_of_ble_eq_true rfl, Nat.le_of_ble_eq_true rfl⟩) (fun ce q9 H1 h1 h2 h3 h4 h5 => ?_)
  exact vx_out (hout _) hlocks h3 h4 h5 (fun t ht hv9 => ⟨rfl, by rw [ht]; exact h1, fun q h => by rw [ht]; exact h2 q h⟩) (fun z h => nomatch h) (Nat.le_refl 1) (Nat.le_refl 6)

set_option maxHeartbeats 4000000 in
set_option maxRecDepth 100000 in
theorem tX4_disk_1 (l : Launch) (hlt : l.stackTraces = false) (dd : va_G) (cI cZ cR cJ : ClassId) (h0 : Nat) (q1 : Nat) (q2 : Nat) (q3 : Nat) (qs : Nat) (qh : Nat) (x : Int32) (hbad : x < 0 ∨ ¬ x < nI 4096) : vx_Met l yX4_disk wsX4_disk ({ frames := 7, cells := 1, slots := 6, locals := 102 }) (va_Pc [.ref h0, .int x] (qx dd cI cZ cR cJ [(h0, .inr (4, [.ref q1, .ref q2, .ref q3, .ref qs, .ref qh]))])) QcNo (xcO iobN) 1 6 (fun _ => False) := by
  refine mk_thr (cc := cX4_disk) (maxL := 2) (ret := (some .int)) (by decide) rfl (Nat.le_of_ble_eq_true rfl) ?_
  intro p e s m below meth c hx hb hr hts hown hlocks hml htab hv ls hl
  obtain ⟨hP, hK, hZ⟩ := hv
  have hown : s.vm.findClass RX4 = some m.cls := hown
  have hout : ∀ (k : Nat), ∀ x ∈ c.exceptionTable.toList, covers x k = false := fun k x h => (htab x h).elim
  have hl : lv_has ls 2 [(0, .ref h0), (1, .int x)] := hl
  refine lv_iload_n hx hb dX4_disk_0 rfl (lv_at hl 1 rfl) ?_
  refine lv_sipush (v := nI 4096) hx hb dX4_disk_1 (by decide) ?_
  refine cx_only (vx_runS (As := [.int x, .int (nI 4096)]) (rest := []) ⟨hx, hb, hml, hown, hts⟩ (tX4_checkIndex l hlt dd cI cZ cR cJ x 4096 hbad) (va_cwS 2 hts gX4_disk_X4_checkIndex rfl rfl rfl (by decide +kernel) ⟨Nat.le_of_ble_eq_true rfl, Nat.le_of_ble_eq_true rfl⟩) (ps_x (A := fun q => s.heap.size ≤ q) hK hP hZ (fun _ h => h) [] rfl) rfl rfl hl.1 rfl (lv_room (Nat.le_of_ble_eq_true rfl)) dX4_disk_4 ⟨Nat.le_of_ble_eq_true rfl, Nat.le_of_ble_eq_true rfl⟩) (fun ce q9 H1 h1 h2 h3 h4 h5 => ?_)
  exact vx_out (hout _) hlocks h3 h4 h5 (fun t ht hv9 => ⟨rfl, by rw [ht]; exact h1, fun q h => by rw [ht]; exact h2 q h⟩) (fun z h => nomatch h) (Nat.le_refl 1) (Nat.le_refl 6)

set_option maxHeartbeats 4000000 in
set_option maxRecDepth 100000 in
theorem tX4_set_1 (l : Launch) (hlt : l.stackTraces = false) (dd : va_G) (cI cZ cR cJ : ClassId) (h0 : Nat) (q1 : Nat) (q2 : Nat) (q3 : Nat) (qs : Nat) (qh : Nat) (x : Int32) (y : Int32) (hbad : x < 0 ∨ ¬ x < nI 16) : vx_Met l yX4_set wsX4_set ({ frames := 7, cells := 1, slots := 6, locals := 102 }) (va_Pc [.ref h0, .int x, .int y] (qx dd cI cZ cR cJ [(h0, .inr (4, [.ref q1, .ref q2, .ref q3, .ref qs, .ref qh]))])) QcNo (xcO iobN) 1 6 (fun _ => False) := by
  refine mk_thr (cc := cX4_set) (maxL := 4) (ret := (some .int)) (by decide) rfl (Nat.le_of_ble_eq_true rfl) ?_
  intro p e s m below meth c hx hb hr hts hown hlocks hml htab hv ls hl
  obtain ⟨hP, hK, hZ⟩ := hv
  have hown : s.vm.findClass RX4 = some m.cls := hown
  have hout : ∀ (k : Nat), ∀ x ∈ c.exceptionTable.toList, covers x k = false := fun k x h => (htab x h).elim
  have hl : lv_has ls 4 [(0, .ref h0), (1, .int x), (2, .int y)] := hl
  refine lv_iload_n hx hb dX4_set_0 rfl (lv_at hl 1 rfl) ?_
  refine lv_bipush (v := nI 16) hx hb dX4_set_1 (by decide) ?_
  refine cx_only (vx_runS (As := [.int x, .int (nI 16)]) (rest := []) ⟨hx, hb, hml, hown, hts⟩ (tX4_checkIndex l hlt dd cI cZ cR cJ x 16 hbad) (va_cwS 2 hts gX4_set_X4_checkIndex rfl rfl rfl (by decide +kernel) ⟨Nat.le_of_ble_eq_true rfl, Nat.le_of_ble_eq_true rfl⟩) (ps_x (A := fun q => s.heap.size ≤ q) hK hP hZ (fun _ h => h) [] rfl) rfl rfl hl.1 rfl (lv_room (Nat.le_of_ble_eq_true rfl)) dX4_set_3 ⟨Nat.le_of_ble_eq_true rfl, Nat.le_of_ble_eq_true rfl⟩) (fun ce q9 H1 h1 h2 h3 h4 h5 => ?_)
  exact vx_out (hout _) hlocks h3 h4 h5 (fun t ht hv9 => ⟨rfl, by rw [ht]; exact h1, fun q h => by rw [ht]; exact h2 q h⟩) (fun z h => nomatch h) (Nat.le_refl 1) (Nat.le_refl 6)

set_option maxHeartbeats 4000000 in
set_option maxRecDepth 100000 in
theorem tX4_spoil_1 (l : Launch) (hlt : l.stackTraces = false) (dd : va_G) (cI cZ cR cJ : ClassId) (h0 : Nat) (q1 : Nat) (q2 : Nat) (q3 : Nat) (qs : Nat) (qh : Nat) (x : Int32) (y : Int32) (hbad : x < 0 ∨ ¬ x < nI 4096) : vx_Met l yX4_spoil wsX4_spoil ({ frames := 7, cells := 1, slots := 6, locals := 102 }) (va_Pc [.ref h0, .int x, .int y] (qx dd cI cZ cR cJ [(h0, .inr (4, [.ref q1, .ref q2, .ref q3, .ref qs, .ref qh]))])) QcNo (xcO iobN) 1 6 (fun _ => False) := by
  refine mk_thr (cc := cX4_spoil) (maxL := 3) (ret := none) (by decide) rfl (Nat.le_of_ble_eq_true rfl) ?_
  intro p e s m below meth c hx hb hr hts hown hlocks hml htab hv ls hl
  obtain ⟨hP, hK, hZ⟩ := hv
  have hown : s.vm.findClass RX4 = some m.cls := hown
  have hout : ∀ (k : Nat), ∀ x ∈ c.exceptionTable.toList, covers x k = false := fun k x h => (htab x h).elim
  have hl : lv_has ls 3 [(0, .ref h0), (1, .int x), (2, .int y)] := hl
  refine lv_iload_n hx hb dX4_spoil_0 rfl (lv_at hl 1 rfl) ?_
  refine lv_sipush (v := nI 4096) hx hb dX4_spoil_1 (by decide) ?_
  refine cx_only (vx_runS (As := [.int x, .int (nI 4096)]) (rest := []) ⟨hx, hb, hml, hown, hts⟩ (tX4_checkIndex l hlt dd cI cZ cR cJ x 4096 hbad) (va_cwS 2 hts gX4_spoil_X4_checkIndex rfl rfl rfl (by decide +kernel) ⟨Nat.le_of_ble_eq_true rfl, Nat.le_of_ble_eq_true rfl⟩) (ps_x (A := fun q => s.heap.size ≤ q) hK hP hZ (fun _ h => h) [] rfl) rfl rfl hl.1 rfl (lv_room (Nat.le_of_ble_eq_true rfl)) dX4_spoil_4 ⟨Nat.le_of_ble_eq_true rfl, Nat.le_of_ble_eq_true rfl⟩) (fun ce q9 H1 h1 h2 h3 h4 h5 => ?_)
  exact vx_out (hout _) hlocks h3 h4 h5 (fun t ht hv9 => ⟨rfl, by rw [ht]; exact h1, fun q h => by rw [ht]; exact h2 q h⟩) (fun z h => nomatch h) (Nat.le_refl 1) (Nat.le_refl 6)

set_option maxHeartbeats 4000000 in
set_option maxRecDepth 100000 in
theorem tX4_set_2 (l : Launch) (hlt : l.stackTraces = false) (dd : va_G) (cI cZ cR cJ : ClassId) (h0 : Nat) (q1 : Nat) (q2 : Nat) (q3 : Nat) (qs : Nat) (qh : Nat) (i : Nat) (x : Int32) (hi : i < 16) (hbad : x < 0 ∨ ¬ x ≤ nI 255) : vx_Met l yX4_set wsX4_set ({ frames := 7, cells := 1, slots := 6, locals := 102 }) (va_Pc [.ref h0, .int (nI i), .int x] (qx dd cI cZ cR cJ [(h0, .inr (4, [.ref q1, .ref q2, .ref q3, .ref qs, .ref qh]))])) QcNo (xcO iarN) 1 6 (fun _ => False) := by
  refine mk_thr (cc := cX4_set) (maxL := 4) (ret := (some .int)) (by decide) rfl (Nat.le_of_ble_eq_true rfl) ?_
  intro p e s m below meth c hx hb hr hts hown hlocks hml htab hv ls hl
  obtain ⟨hP, hK, hZ⟩ := hv
  have hown : s.vm.findClass RX4 = some m.cls := hown
  have hout : ∀ (k : Nat), ∀ x ∈ c.exceptionTable.toList, covers x k = false := fun k x h => (htab x h).elim
  have hl : lv_has ls 4 [(0, .ref h0), (1, .int (nI i)), (2, .int x)] := hl
  refine lv_iload_n hx hb dX4_set_0 rfl (lv_at hl 1 rfl) ?_
  refine lv_bipush (v := nI 16) hx hb dX4_set_1 (by decide) ?_
  refine cr_v (va_runS (As := [.int (nI i), .int (nI 16)]) (rest := []) ⟨hx, hb, hml, hown, hts⟩ (kX4_checkIndex l dd cI cZ cR cJ i 16 (by omega) (by omega)) (va_cwS 2 hts gX4_set_X4_checkIndex rfl rfl rfl (by decide +kernel) ⟨Nat.le_of_ble_eq_true rfl, Nat.le_of_ble_eq_true rfl⟩) (ps_c hK hP [] rfl) rfl rfl hl.1 rfl (lv_room (Nat.le_of_ble_eq_true rfl)) dX4_set_3 ⟨Nat.zero_le _, Nat.zero_le _⟩) ?_
  refine lv_iload_n hx hb dX4_set_6 rfl (lv_at hl 2 rfl) ?_
  refine lv_sipush (v := nI 255) hx hb dX4_set_7 (by decide) ?_
  refine cx_only (vx_runS (As := [.int x, .int (nI 255)]) (rest := []) ⟨hx, hb, hml, hown, hts⟩ (tX4_checkArgument l hlt dd cI cZ cR cJ x 255 hbad) (va_cwS 2 hts gX4_set_X4_checkArgument rfl rfl rfl (by decide +kernel) ⟨Nat.le_of_ble_eq_true rfl, Nat.le_of_ble_eq_true rfl⟩) (ps_x (A := fun q => s.heap.size ≤ q) hK hP hZ (fun _ h => h) [] rfl) rfl rfl hl.1 rfl (lv_room (Nat.le_of_ble_eq_true rfl)) dX4_set_10 ⟨Nat.le_of_ble_eq_true rfl, Nat.le_of_ble_eq_true rfl⟩) (fun ce q9 H1 h1 h2 h3 h4 h5 => ?_)
  exact vx_out (hout _) hlocks h3 h4 h5 (fun t ht hv9 => ⟨rfl, by rw [ht]; exact h1, fun q h => by rw [ht]; exact h2 q h⟩) (fun z h => nomatch h) (Nat.le_refl 1) (Nat.le_refl 6)

set_option maxHeartbeats 4000000 in
set_option maxRecDepth 100000 in
theorem tX4_spoil_2 (l : Launch) (hlt : l.stackTraces = false) (dd : va_G) (cI cZ cR cJ : ClassId) (h0 : Nat) (q1 : Nat) (q2 : Nat) (q3 : Nat) (qs : Nat) (qh : Nat) (i : Nat) (x : Int32) (hi : i < 4096) (hbad : x < 0 ∨ ¬ x ≤ nI 255) : vx_Met l yX4_spoil wsX4_spoil ({ frames := 7, cells := 1, slots := 6, locals := 102 }) (va_Pc [.ref h0, .int (nI i), .int x] (qx dd cI cZ cR cJ [(h0, .inr (4, [.ref q1, .ref q2, .ref q3, .ref qs, .ref qh]))])) QcNo (xcO iarN) 1 6 (fun _ => False) := by
  refine mk_thr (cc := cX4_spoil) (maxL := 3) (ret := none) (by decide) rfl (Nat.le_of_ble_eq_true rfl) ?_
  intro p e s m below meth c hx hb hr hts hown hlocks hml htab hv ls hl
  obtain ⟨hP, hK, hZ⟩ := hv
  have hown : s.vm.findClass RX4 = some m.cls := hown
  have hout : ∀ (k : Nat), ∀ x ∈ c.exceptionTable.toList, covers x k = false := fun k x h => (htab x h).elim
  have hl : lv_has ls 3 [(0, .ref h0), (1, .int (nI i)), (2, .int x)] := hl
  refine lv_iload_n hx hb dX4_spoil_0 rfl (lv_at hl 1 rfl) ?_
  refine lv_sipush (v := nI 4096) hx hb dX4_spoil_1 (by decide) ?_
  refine cr_v (va_runS (As := [.int (nI i), .int (nI 4096)]) (rest := []) ⟨hx, hb, hml, hown, hts⟩ (kX4_checkIndex l dd cI cZ cR cJ i 4096 (by omega) (by omega)) (va_cwS 2 hts gX4_spoil_X4_checkIndex rfl rfl rfl (by decide +kernel) ⟨Nat.le_of_ble_eq_true rfl, Nat.le_of_ble_eq_true rfl⟩) (ps_c hK hP [] rfl) rfl rfl hl.1 rfl (lv_room (Nat.le_of_ble_eq_true rfl)) dX4_spoil_4 ⟨Nat.zero_le _, Nat.zero_le _⟩) ?_
  refine lv_iload_n hx hb dX4_spoil_7 rfl (lv_at hl 2 rfl) ?_
  refine lv_sipush (v := nI 255) hx hb dX4_spoil_8 (by decide) ?_
  refine cx_only (vx_runS (As := [.int x, .int (nI 255)]) (rest := []) ⟨hx, hb, hml, hown, hts⟩ (tX4_checkArgument l hlt dd cI cZ cR cJ x 255 hbad) (va_cwS 2 hts gX4_spoil_X4_checkArgument rfl rfl rfl (by decide +kernel) ⟨Nat.le_of_ble_eq_true rfl, Nat.le_of_ble_eq_true rfl⟩) (ps_x (A := fun q => s.heap.size ≤ q) hK hP hZ (fun _ h => h) [] rfl) rfl rfl hl.1 rfl (lv_room (Nat.le_of_ble_eq_true rfl)) dX4_spoil_11 ⟨Nat.le_of_ble_eq_true rfl, Nat.le_of_ble_eq_true rfl⟩) (fun ce q9 H1 h1 h2 h3 h4 h5 => ?_)
  exact vx_out (hout _) hlocks h3 h4 h5 (fun t ht hv9 => ⟨rfl, by rw [ht]; exact h1, fun q h => by rw [ht]; exact h2 q h⟩) (fun z h => nomatch h) (Nat.le_refl 1) (Nat.le_refl 6)
