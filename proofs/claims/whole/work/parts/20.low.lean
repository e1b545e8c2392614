set_option maxHeartbeats 4000000 in
set_option maxRecDepth 100000 in
theorem kX3_lastForEver (l : Launch) (dd : va_G) (cI cZ cR cJ : ClassId) (h0 : Nat) (q4 : Nat) (le : Bool) (wl : Nat) (wd : Int32) (sz : Nat) : Met l yX3_lastForEver wsX3_lastForEver ({ frames := 0, cells := 0, slots := 0, locals := 0 }) (va_Pc [.ref h0] (qm dd cI cZ cR cJ sz [(h0, .inr (3, [.ref q4, .int (bI le), .int (nI wl), .int wd]))])) (va_Qv (fun u : Unit => True) (fun u t => qa dd (va_A [(h0, .inr (3, [.ref q4, .int (bI le), .int (nI wl), .int wd]))] sz) [(h0, .inr (3, [.ref q4, .int (bI true), .int (nI wl), .int (nI 0)]))] t) (va_A [(h0, .inr (3, [.ref q4, .int (bI le), .int (nI wl), .int wd]))] sz)) 0 0 (va_A [(h0, .inr (3, [.ref q4, .int (bI le), .int (nI wl), .int wd]))] sz) := by
  refine mk_mut (cc := cX3_lastForEver) (maxL := 1) (ret := none) (Qf := fun A => va_Qv (fun u : Unit => True) (fun u t => qa dd A [(h0, .inr (3, [.ref q4, .int (bI true), .int (nI wl), .int (nI 0)]))] t) A) (by decide) rfl (Nat.le_of_ble_eq_true rfl) ?_
  intro p e s m below meth c A hx hb hr hts hown hlocks hml hin hP hD hA hS hK ls hl
  have hown : s.vm.findClass RX3 = some m.cls := hown
  have hl : lv_has ls 1 [(0, .ref h0)] := hl
  have hf_15 := hts (.fieldLink RX3 15 "RecordSystem$Disk" "lastsForEver" "Z") (by decide +kernel)
  have hin_X3 : ∀ w ∈ wsX30, w ∈ wsX3_lastForEver := by decide +kernel
  have hf_19 := hts (.fieldLink RX3 19 "RecordSystem$Disk" "writesDone" "I") (by decide +kernel)
  refine lv_aload_n hx hb dX3_lastForEver_0 rfl (lv_at hl 0 rfl) ?_
  refine lv_iconst (v := nI 1) hx hb dX3_lastForEver_1 (by decide) ?_
  refine va_put (D := dd) (ci := 3) (v := .int (nI 1)) (ty := .boolean) (C := RX3) (T := TX3) (N := 4) hx hb hts hin_X3 tyX3 tyX3_ok nmX3 hown hK.1 hP hD hS 0 rfl rfl 1 (by decide) hf_15 (fun _ h9 => h9) rfl (by decide +kernel) rfl rfl (Nat.le_of_ble_eq_true rfl) dX3_lastForEver_2 (fun H locs hP hD hS => ?_)
  have hP : va_P dd vwCl [(h0, .inr (3, [.ref q4, .int (bI true), .int (nI wl), .int wd]))] H := hP
  have hD : va_D A [(h0, .inr (3, [.ref q4, .int (bI true), .int (nI wl), .int wd]))] := hD
  refine lv_aload_n hx hb dX3_lastForEver_5 rfl (lv_at hl 0 rfl) ?_
  refine lv_iconst (v := nI 0) hx hb dX3_lastForEver_6 (by decide) ?_
  refine va_put (D := dd) (ci := 3) (v := .int (nI 0)) (ty := .int) (C := RX3) (T := TX3) (N := 4) hx hb hts hin_X3 tyX3 tyX3_ok nmX3 hown hK.1 hP hD hS 0 rfl rfl 3 (by decide) hf_19 (fun _ h9 => h9) rfl (by decide +kernel) rfl rfl (Nat.le_of_ble_eq_true rfl) dX3_lastForEver_7 (fun H locs hP hD hS => ?_)
  have hP : va_P dd vwCl [(h0, .inr (3, [.ref q4, .int (bI true), .int (nI wl), .int (nI 0)]))] H := hP
  have hD : va_D A [(h0, .inr (3, [.ref q4, .int (bI true), .int (nI wl), .int (nI 0)]))] := hD
  have hP9 := hP.sub (ws' := [(h0, .inr (3, [.ref q4, .int (bI true), .int (nI wl), .int (nI 0)]))]) [0] rfl
  have hD9 := hD.sub (ws' := [(h0, .inr (3, [.ref q4, .int (bI true), .int (nI wl), .int (nI 0)]))]) [0] (by decide) rfl
  exact W.vret hx hb hr (fun t ht hW => ⟨⟨(), rfl, trivial, by rw [ht]; exact hP9, hD9⟩, hS.F ht⟩) hS.2.2 dX3_lastForEver_10

set_option maxHeartbeats 4000000 in
set_option maxRecDepth 100000 in
theorem kX3_lastFor (l : Launch) (dd : va_G) (cI cZ cR cJ : ClassId) (h0 : Nat) (q4 : Nat) (le : Bool) (wl : Nat) (wd : Int32) (n : Nat) (sz : Nat) : Met l yX3_lastFor wsX3_lastFor ({ frames := 0, cells := 0, slots := 0, locals := 0 }) (va_Pc [.ref h0, .int (nI n)] (qm dd cI cZ cR cJ sz [(h0, .inr (3, [.ref q4, .int (bI le), .int (nI wl), .int wd]))])) (va_Qv (fun u : Unit => True) (fun u t => qa dd (va_A [(h0, .inr (3, [.ref q4, .int (bI le), .int (nI wl), .int wd]))] sz) [(h0, .inr (3, [.ref q4, .int (bI false), .int (nI n), .int (nI 0)]))] t) (va_A [(h0, .inr (3, [.ref q4, .int (bI le), .int (nI wl), .int wd]))] sz)) 0 0 (va_A [(h0, .inr (3, [.ref q4, .int (bI le), .int (nI wl), .int wd]))] sz) := by
  refine mk_mut (cc := cX3_lastFor) (maxL := 2) (ret := none) (Qf := fun A => va_Qv (fun u : Unit => True) (fun u t => qa dd A [(h0, .inr (3, [.ref q4, .int (bI false), .int (nI n), .int (nI 0)]))] t) A) (by decide) rfl (Nat.le_of_ble_eq_true rfl) ?_
  intro p e s m below meth c A hx hb hr hts hown hlocks hml hin hP hD hA hS hK ls hl
  have hown : s.vm.findClass RX3 = some m.cls := hown
  have hl : lv_has ls 2 [(0, .ref h0), (1, .int (nI n))] := hl
  have hf_15 := hts (.fieldLink RX3 15 "RecordSystem$Disk" "lastsForEver" "Z") (by decide +kernel)
  have hin_X3 : ∀ w ∈ wsX30, w ∈ wsX3_lastFor := by decide +kernel
  have hf_23 := hts (.fieldLink RX3 23 "RecordSystem$Disk" "writesLeft" "I") (by decide +kernel)
  have hf_19 := hts (.fieldLink RX3 19 "RecordSystem$Disk" "writesDone" "I") (by decide +kernel)
  refine lv_aload_n hx hb dX3_lastFor_0 rfl (lv_at hl 0 rfl) ?_
  refine lv_iconst (v := nI 0) hx hb dX3_lastFor_1 (by decide) ?_
  refine va_put (D := dd) (ci := 3) (v := .int (nI 0)) (ty := .boolean) (C := RX3) (T := TX3) (N := 4) hx hb hts hin_X3 tyX3 tyX3_ok nmX3 hown hK.1 hP hD hS 0 rfl rfl 1 (by decide) hf_15 (fun _ h9 => h9) rfl (by decide +kernel) rfl rfl (Nat.le_of_ble_eq_true rfl) dX3_lastFor_2 (fun H locs hP hD hS => ?_)
  have hP : va_P dd vwCl [(h0, .inr (3, [.ref q4, .int (bI false), .int (nI wl), .int wd]))] H := hP
  have hD : va_D A [(h0, .inr (3, [.ref q4, .int (bI false), .int (nI wl), .int wd]))] := hD
  refine lv_aload_n hx hb dX3_lastFor_5 rfl (lv_at hl 0 rfl) ?_
  refine lv_iload_n hx hb dX3_lastFor_6 rfl (lv_at hl 1 rfl) ?_
  refine va_put (D := dd) (ci := 3) (v := .int (nI n)) (ty := .int) (C := RX3) (T := TX3) (N := 4) hx hb hts hin_X3 tyX3 tyX3_ok nmX3 hown hK.1 hP hD hS 0 rfl rfl 2 (by decide) hf_23 (fun _ h9 => h9) rfl (by decide +kernel) rfl rfl (Nat.le_of_ble_eq_true rfl) dX3_lastFor_7 (fun H locs hP hD hS => ?_)
  have hP : va_P dd vwCl [(h0, .inr (3, [.ref q4, .int (bI false), .int (nI n), .int wd]))] H := hP
  have hD : va_D A [(h0, .inr (3, [.ref q4, .int (bI false), .int (nI n), .int wd]))] := hD
  refine lv_aload_n hx hb dX3_lastFor_10 rfl (lv_at hl 0 rfl) ?_
  refine lv_iconst (v := nI 0) hx hb dX3_lastFor_11 (by decide) ?_
  refine va_put (D := dd) (ci := 3) (v := .int (nI 0)) (ty := .int) (C := RX3) (T := TX3) (N := 4) hx hb hts hin_X3 tyX3 tyX3_ok nmX3 hown hK.1 hP hD hS 0 rfl rfl 3 (by decide) hf_19 (fun _ h9 => h9) rfl (by decide +kernel) rfl rfl (Nat.le_of_ble_eq_true rfl) dX3_lastFor_12 (fun H locs hP hD hS => ?_)
  have hP : va_P dd vwCl [(h0, .inr (3, [.ref q4, .int (bI false), .int (nI n), .int (nI 0)]))] H := hP
  have hD : va_D A [(h0, .inr (3, [.ref q4, .int (bI false), .int (nI n), .int (nI 0)]))] := hD
  have hP9 := hP.sub (ws' := [(h0, .inr (3, [.ref q4, .int (bI false), .int (nI n), .int (nI 0)]))]) [0] rfl
  have hD9 := hD.sub (ws' := [(h0, .inr (3, [.ref q4, .int (bI false), .int (nI n), .int (nI 0)]))]) [0] (by decide) rfl
  exact W.vret hx hb hr (fun t ht hW => ⟨⟨(), rfl, trivial, by rw [ht]; exact hP9, hD9⟩, hS.F ht⟩) hS.2.2 dX3_lastFor_15

set_option maxHeartbeats 4000000 in
set_option maxRecDepth 100000 in
theorem kX3_getRow (l : Launch) (dd : va_G) (cI cZ cR cJ : ClassId) (h0 : Nat) (q4 : Nat) (le : Bool) (wl : Nat) (wd : Int32) (D : Nat → Nat) (rn : Nat) (qr : Nat) (row : Nat → Nat) (sz : Nat) (hrn : rn < 256) : Met l yX3_getRow wsX3_getRow ({ frames := 0, cells := 0, slots := 0, locals := 0 }) (va_Pc [.ref h0, .int (nI rn), .ref qr] (qm dd cI cZ cR cJ sz [(h0, .inr (3, [.ref q4, .int (bI le), .int (nI wl), .int wd])), (q4, .inl (cI, 4096, .inl (aN D))), (qr, .inl (cI, 16, .inl (aN row)))])) (va_Qv (fun u : Unit => True) (fun u t => qa dd (va_A [(h0, .inr (3, [.ref q4, .int (bI le), .int (nI wl), .int wd])), (q4, .inl (cI, 4096, .inl (aN D))), (qr, .inl (cI, 16, .inl (aN row)))] sz) [(h0, .inr (3, [.ref q4, .int (bI le), .int (nI wl), .int wd])), (q4, .inl (cI, 4096, .inl (aN D))), (qr, .inl (cI, 16, .inl (aN (gtR D rn row))))] t) (va_A [(h0, .inr (3, [.ref q4, .int (bI le), .int (nI wl), .int wd])), (q4, .inl (cI, 4096, .inl (aN D))), (qr, .inl (cI, 16, .inl (aN row)))] sz)) 0 0 (va_A [(h0, .inr (3, [.ref q4, .int (bI le), .int (nI wl), .int wd])), (q4, .inl (cI, 4096, .inl (aN D))), (qr, .inl (cI, 16, .inl (aN row)))] sz) := by
  refine mk_mut (cc := cX3_getRow) (maxL := 4) (ret := none) (Qf := fun A => va_Qv (fun u : Unit => True) (fun u t => qa dd A [(h0, .inr (3, [.ref q4, .int (bI le), .int (nI wl), .int wd])), (q4, .inl (cI, 4096, .inl (aN D))), (qr, .inl (cI, 16, .inl (aN (gtR D rn row))))] t) A) (by decide) rfl (Nat.le_of_ble_eq_true rfl) ?_
  intro p e s m below meth c A hx hb hr hts hown hlocks hml hin hP hD hA hS hK ls hl
  have hown : s.vm.findClass RX3 = some m.cls := hown
  have hl : lv_has ls 4 [(0, .ref h0), (1, .int (nI rn)), (2, .ref qr)] := hl
  have hf_9 := hts (.fieldLink RX3 9 "RecordSystem$Disk" "bytes" "[I") (by decide +kernel)
  have hin_X3 : ∀ w ∈ wsX30, w ∈ wsX3_getRow := by decide +kernel
  refine lv_iconst (v := nI 0) hx hb dX3_getRow_0 (by decide) ?_
  refine lv_istore_n (lv' := [(3, .int (nI 0)), (0, .ref h0), (1, .int (nI rn)), (2, .ref qr)]) hx hb dX3_getRow_1 rfl hl (by decide) rfl (fun ls hl => ?_)
  have loop_1 : ∀ (n k : Nat), k ≤ 16 → 16 + 1 ≤ k + n → ∀ (H : Heap) (locs : List Loc), va_P dd vwCl [(h0, .inr (3, [.ref q4, .int (bI le), .int (nI wl), .int wd])), (q4, .inl (cI, 4096, .inl (aN D))), (qr, .inl (cI, 16, .inl (aN (va_cpy D row (16 * rn) 0 k))))] H → va_D A [(h0, .inr (3, [.ref q4, .int (bI le), .int (nI wl), .int wd])), (q4, .inl (cI, 4096, .inl (aN D))), (qr, .inl (cI, 16, .inl (aN (va_cpy D row (16 * rn) 0 k))))] → va_S A s.heap H locs → ∀ ls : Array Slot, lv_has ls 4 [(3, .int (nI k)), (0, .ref h0), (1, .int (nI rn)), (2, .ref qr)] → W p l e (({ frames := 0, cells := 0, slots := 0, locals := 0 } : Room)) s m ([.ref h0, .int (nI rn), .ref qr] : List Value).toArray below meth c H locs 0 0 (MQ below (va_Qv (fun u : Unit => True) (fun u t => qa dd A [(h0, .inr (3, [.ref q4, .int (bI le), .int (nI wl), .int wd])), (q4, .inl (cI, 4096, .inl (aN D))), (qr, .inl (cI, 16, .inl (aN (gtR D rn row))))] t) A) ([.ref h0, .int (nI rn), .ref qr] : List Value).toArray s 0 0 A) (F0 m 2 ls []) := by
    intro n
    induction n with
    | zero => intro k h1 h2; exact absurd h2 (by omega)
    | succ n ih =>
      intro k hk_k hn_k H locs hP hD hS ls hl
      have ih_2 := ih
      refine lv_iload_n hx hb dX3_getRow_2 rfl (lv_at hl 0 rfl) ?_
      refine lv_bipush (v := nI 16) hx hb dX3_getRow_3 (by decide) ?_
      refine nr_ge (tgt := 28) hx hb (by omega) (by omega) dX3_getRow_5 (by decide) (fun c_5 => ?_) (fun c_5 => ?_)
      · have ek_k : k = 16 := by omega
        subst ek_k
        have hP9 := hP.sub (ws' := [(h0, .inr (3, [.ref q4, .int (bI le), .int (nI wl), .int wd])), (q4, .inl (cI, 4096, .inl (aN D))), (qr, .inl (cI, 16, .inl (aN (va_cpy D row (16 * rn) 0 16))))]) [0, 1, 2] rfl
        have hD9 := hD.sub (ws' := [(h0, .inr (3, [.ref q4, .int (bI le), .int (nI wl), .int wd])), (q4, .inl (cI, 4096, .inl (aN D))), (qr, .inl (cI, 16, .inl (aN (va_cpy D row (16 * rn) 0 16))))]) [0, 1, 2] (by decide) rfl
        exact W.vret hx hb hr (fun t ht hW => ⟨⟨(), rfl, trivial, by rw [ht]; exact hP9, hD9⟩, hS.F ht⟩) hS.2.2 dX3_getRow_28
      · refine lv_aload_n hx hb dX3_getRow_8 rfl (lv_at hl 3 rfl) ?_
        refine lv_iload_n hx hb dX3_getRow_9 rfl (lv_at hl 0 rfl) ?_
        refine lv_aload_n hx hb dX3_getRow_10 rfl (lv_at hl 1 rfl) ?_
        refine va_get (D := dd) (ci := 3) (v := .ref q4) (C := RX3) (T := TX3) (N := 4) hx hb hts hin_X3 hown hK.1 hP 0 rfl rfl 0 (by decide) hf_9 (fun _ h9 => h9) rfl dX3_getRow_11 ?_
        refine lv_iload_n hx hb dX3_getRow_14 rfl (lv_at hl 2 rfl) ?_
        refine lv_bipush (v := nI 16) hx hb dX3_getRow_15 (by decide) ?_
        refine nr_imul (16 * rn) (by omega) hx hb dX3_getRow_17 ?_
        refine lv_iload_n hx hb dX3_getRow_18 rfl (lv_at hl 0 rfl) ?_
        refine nr_iadd (16 * rn + k) (by omega) hx hb dX3_getRow_19 ?_
        refine nr_iald (f := D) hx hb hK hP 1 rfl (by omega) (by decide) dX3_getRow_20 ?_
        refine nr_iast (f := va_cpy D row (16 * rn) 0 k) (v := D (16 * rn + k)) hx hb hK hP hD hS 2 rfl (by omega) (by decide) dX3_getRow_21 (fun H locs hP hD hS => ?_)
        have hP : va_P dd vwCl [(h0, .inr (3, [.ref q4, .int (bI le), .int (nI wl), .int wd])), (q4, .inl (cI, 4096, .inl (aN D))), (qr, .inl (cI, 16, .inl (aN (va_up (va_cpy D row (16 * rn) 0 k) k (D (16 * rn + k))))))] H := hP
        have hD : va_D A [(h0, .inr (3, [.ref q4, .int (bI le), .int (nI wl), .int wd])), (q4, .inl (cI, 4096, .inl (aN D))), (qr, .inl (cI, 16, .inl (aN (va_up (va_cpy D row (16 * rn) 0 k) k (D (16 * rn + k))))))] := hD
        have hu_3 : va_up (va_cpy D row (16 * rn) 0 k) k (D (16 * rn + k)) = va_cpy D row (16 * rn) 0 (k + 1) := cpy_up (by omega) rfl
        rw [hu_3] at hP hD
        refine lv_iinc (v := nI (k + 1)) (lv' := [(3, .int (nI (k + 1))), (0, .ref h0), (1, .int (nI rn)), (2, .ref qr)]) hx hb dX3_getRow_22 hl (k := 0) rfl (nr_inc _ _ (by omega)) (by decide) rfl (fun ls hl => ?_)
        refine lv_goto (tgt := 2) hx hb dX3_getRow_25 (by decide) ?_
        exact ih_2 (k + 1) (by omega) (by omega) _ _ hP hD hS ls (lv_sub hl [0, 1, 2, 3] rfl)
  exact loop_1 (16 + 1) 0 (by omega) (by omega) _ _ (by rw [cpy_0]; exact hP) (by rw [cpy_0]; exact hD) hS ls (lv_sub hl [0, 1, 2, 3] rfl)

set_option maxHeartbeats 4000000 in
set_option maxRecDepth 100000 in
theorem kX3_putRow (l : Launch) (dd : va_G) (cI cZ cR cJ : ClassId) (h0 : Nat) (q4 : Nat) (le : Bool) (wl : Nat) (wd : Int32) (D : Nat → Nat) (rn : Nat) (qr : Nat) (row : Nat → Nat) (sz : Nat) (hrn : rn < 256) (hwl : wl ≤ 1000) : Met l yX3_putRow wsX3_putRow ({ frames := 0, cells := 0, slots := 0, locals := 0 }) (va_Pc [.ref h0, .int (nI rn), .ref qr] (qm dd cI cZ cR cJ sz [(h0, .inr (3, [.ref q4, .int (bI le), .int (nI wl), .int wd])), (q4, .inl (cI, 4096, .inl (aN D))), (qr, .inl (cI, 16, .inl (aN row)))])) (va_Qi (fun (r : Int32) (u : Bool × (Nat → Nat) × Nat × Int32) => r = bI u.1 ∧ ((u.1, u.2.1, u.2.2.1, u.2.2.2) = mPut le wl wd D rn row)) (fun u t => qa dd (va_A [(h0, .inr (3, [.ref q4, .int (bI le), .int (nI wl), .int wd])), (q4, .inl (cI, 4096, .inl (aN D))), (qr, .inl (cI, 16, .inl (aN row)))] sz) [(h0, .inr (3, [.ref q4, .int (bI le), .int (nI (u.2.2.1)), .int u.2.2.2])), (q4, .inl (cI, 4096, .inl (aN u.2.1))), (qr, .inl (cI, 16, .inl (aN row)))] t) (va_A [(h0, .inr (3, [.ref q4, .int (bI le), .int (nI wl), .int wd])), (q4, .inl (cI, 4096, .inl (aN D))), (qr, .inl (cI, 16, .inl (aN row)))] sz)) 0 0 (va_A [(h0, .inr (3, [.ref q4, .int (bI le), .int (nI wl), .int wd])), (q4, .inl (cI, 4096, .inl (aN D))), (qr, .inl (cI, 16, .inl (aN row)))] sz) := by
  refine mk_mut (cc := cX3_putRow) (maxL := 4) (ret := (some .boolean)) (Qf := fun A => va_Qi (fun (r : Int32) (u : Bool × (Nat → Nat) × Nat × Int32) => r = bI u.1 ∧ ((u.1, u.2.1, u.2.2.1, u.2.2.2) = mPut le wl wd D rn row)) (fun u t => qa dd A [(h0, .inr (3, [.ref q4, .int (bI le), .int (nI (u.2.2.1)), .int u.2.2.2])), (q4, .inl (cI, 4096, .inl (aN u.2.1))), (qr, .inl (cI, 16, .inl (aN row)))] t) A) (by decide) rfl (Nat.le_of_ble_eq_true rfl) ?_
  intro p e s m below meth c A hx hb hr hts hown hlocks hml hin hP hD hA hS hK ls hl
  have hown : s.vm.findClass RX3 = some m.cls := hown
  have hl : lv_has ls 4 [(0, .ref h0), (1, .int (nI rn)), (2, .ref qr)] := hl
  have hf_15 := hts (.fieldLink RX3 15 "RecordSystem$Disk" "lastsForEver" "Z") (by decide +kernel)
  have hin_X3 : ∀ w ∈ wsX30, w ∈ wsX3_putRow := by decide +kernel
  have hf_19 := hts (.fieldLink RX3 19 "RecordSystem$Disk" "writesDone" "I") (by decide +kernel)
  have hf_9 := hts (.fieldLink RX3 9 "RecordSystem$Disk" "bytes" "[I") (by decide +kernel)
  have hf_23 := hts (.fieldLink RX3 23 "RecordSystem$Disk" "writesLeft" "I") (by decide +kernel)
  refine lv_aload_n hx hb dX3_putRow_0 rfl (lv_at hl 0 rfl) ?_
  refine va_get (D := dd) (ci := 3) (v := .int (bI le)) (C := RX3) (T := TX3) (N := 4) hx hb hts hin_X3 hown hK.1 hP 0 rfl rfl 1 (by decide) hf_15 (fun _ h9 => h9) rfl dX3_putRow_1 ?_
  refine br_if_ne (tgt := 26) hx hb dX3_putRow_4 (by decide) (fun c_4 => ?_) (fun c_4 => ?_)
  · refine lv_iconst (v := nI 0) hx hb dX3_putRow_26 (by decide) ?_
    refine lv_istore_n (lv' := [(3, .int (nI 0)), (0, .ref h0), (1, .int (nI rn)), (2, .ref qr)]) hx hb dX3_putRow_27 rfl hl (by decide) rfl (fun ls hl => ?_)
    have loop_1 : ∀ (n k : Nat), k ≤ 16 → 16 + 1 ≤ k + n → ∀ (H : Heap) (locs : List Loc), va_P dd vwCl [(h0, .inr (3, [.ref q4, .int (bI le), .int (nI wl), .int wd])), (q4, .inl (cI, 4096, .inl (aN (va_cpy row D 0 (16 * rn) k)))), (qr, .inl (cI, 16, .inl (aN row)))] H → va_D A [(h0, .inr (3, [.ref q4, .int (bI le), .int (nI wl), .int wd])), (q4, .inl (cI, 4096, .inl (aN (va_cpy row D 0 (16 * rn) k)))), (qr, .inl (cI, 16, .inl (aN row)))] → va_S A s.heap H locs → ∀ ls : Array Slot, lv_has ls 4 [(3, .int (nI k)), (0, .ref h0), (1, .int (nI rn)), (2, .ref qr)] → W p l e (({ frames := 0, cells := 0, slots := 0, locals := 0 } : Room)) s m ([.ref h0, .int (nI rn), .ref qr] : List Value).toArray below meth c H locs 0 0 (MQ below (va_Qi (fun (r : Int32) (u : Bool × (Nat → Nat) × Nat × Int32) => r = bI u.1 ∧ ((u.1, u.2.1, u.2.2.1, u.2.2.2) = mPut le wl wd D rn row)) (fun u t => qa dd A [(h0, .inr (3, [.ref q4, .int (bI le), .int (nI (u.2.2.1)), .int u.2.2.2])), (q4, .inl (cI, 4096, .inl (aN u.2.1))), (qr, .inl (cI, 16, .inl (aN row)))] t) A) ([.ref h0, .int (nI rn), .ref qr] : List Value).toArray s 0 0 A) (F0 m 28 ls []) := by
      intro n
      induction n with
      | zero => intro k h1 h2; exact absurd h2 (by omega)
      | succ n ih =>
        intro k hk_k hn_k H locs hP hD hS ls hl
        have ih_2 := ih
        refine lv_iload_n hx hb dX3_putRow_28 rfl (lv_at hl 0 rfl) ?_
        refine lv_bipush (v := nI 16) hx hb dX3_putRow_29 (by decide) ?_
        refine nr_ge (tgt := 54) hx hb (by omega) (by omega) dX3_putRow_31 (by decide) (fun c_31 => ?_) (fun c_31 => ?_)
        · have ek_k : k = 16 := by omega
          subst ek_k
          refine lv_aload_n hx hb dX3_putRow_54 rfl (lv_at hl 1 rfl) ?_
          refine lv_dup hx hb dX3_putRow_55 rfl ?_
          refine va_get (D := dd) (ci := 3) (v := .int wd) (C := RX3) (T := TX3) (N := 4) hx hb hts hin_X3 hown hK.1 hP 0 rfl rfl 3 (by decide) hf_19 (fun _ h9 => h9) rfl dX3_putRow_56 ?_
          refine lv_iconst (v := nI 1) hx hb dX3_putRow_59 (by decide) ?_
          refine lv_iadd hx hb dX3_putRow_60 ?_
          refine va_put (D := dd) (ci := 3) (v := .int (wd + nI 1)) (ty := .int) (C := RX3) (T := TX3) (N := 4) hx hb hts hin_X3 tyX3 tyX3_ok nmX3 hown hK.1 hP hD hS 0 rfl rfl 3 (by decide) hf_19 (fun _ h9 => h9) rfl (by decide +kernel) rfl rfl (Nat.le_of_ble_eq_true rfl) dX3_putRow_61 (fun H locs hP hD hS => ?_)
          have hP : va_P dd vwCl [(h0, .inr (3, [.ref q4, .int (bI le), .int (nI wl), .int (wd + nI 1)])), (q4, .inl (cI, 4096, .inl (aN (va_cpy row D 0 (16 * rn) 16)))), (qr, .inl (cI, 16, .inl (aN row)))] H := hP
          have hD : va_D A [(h0, .inr (3, [.ref q4, .int (bI le), .int (nI wl), .int (wd + nI 1)])), (q4, .inl (cI, 4096, .inl (aN (va_cpy row D 0 (16 * rn) 16)))), (qr, .inl (cI, 16, .inl (aN row)))] := hD
          refine lv_iconst (v := nI 1) hx hb dX3_putRow_64 (by decide) ?_
          have hP9 := hP.sub (ws' := [(h0, .inr (3, [.ref q4, .int (bI le), .int (nI wl), .int (wd + nI 1)])), (q4, .inl (cI, 4096, .inl (aN (va_cpy row D 0 (16 * rn) 16)))), (qr, .inl (cI, 16, .inl (aN row)))]) [0, 1, 2] rfl
          have hD9 := hD.sub (ws' := [(h0, .inr (3, [.ref q4, .int (bI le), .int (nI wl), .int (wd + nI 1)])), (q4, .inl (cI, 4096, .inl (aN (va_cpy row D 0 (16 * rn) 16)))), (qr, .inl (cI, 16, .inl (aN row)))]) [0, 1, 2] (by decide) rfl
          exact W.zret (v := nI 1) hx hb hr (by decide) (fun t ht hW => ⟨⟨nI 1, (true, va_cpy row D 0 (16 * rn) 16, wl, wd + nI 1), rfl, ⟨rfl, by simp [mPut, cpW, c_4]⟩, by rw [ht]; exact hP9, hD9⟩, hS.F ht⟩) hS.2.2 dX3_putRow_65
        · refine lv_aload_n hx hb dX3_putRow_34 rfl (lv_at hl 1 rfl) ?_
          refine va_get (D := dd) (ci := 3) (v := .ref q4) (C := RX3) (T := TX3) (N := 4) hx hb hts hin_X3 hown hK.1 hP 0 rfl rfl 0 (by decide) hf_9 (fun _ h9 => h9) rfl dX3_putRow_35 ?_
          refine lv_iload_n hx hb dX3_putRow_38 rfl (lv_at hl 2 rfl) ?_
          refine lv_bipush (v := nI 16) hx hb dX3_putRow_39 (by decide) ?_
          refine nr_imul (16 * rn) (by omega) hx hb dX3_putRow_41 ?_
          refine lv_iload_n hx hb dX3_putRow_42 rfl (lv_at hl 0 rfl) ?_
          refine nr_iadd (16 * rn + k) (by omega) hx hb dX3_putRow_43 ?_
          refine lv_aload_n hx hb dX3_putRow_44 rfl (lv_at hl 3 rfl) ?_
          refine lv_iload_n hx hb dX3_putRow_45 rfl (lv_at hl 0 rfl) ?_
          refine nr_iald (f := row) hx hb hK hP 2 rfl (by omega) (by decide) dX3_putRow_46 ?_
          refine nr_iast (f := va_cpy row D 0 (16 * rn) k) (v := row k) hx hb hK hP hD hS 1 rfl (by omega) (by decide) dX3_putRow_47 (fun H locs hP hD hS => ?_)
          have hP : va_P dd vwCl [(h0, .inr (3, [.ref q4, .int (bI le), .int (nI wl), .int wd])), (q4, .inl (cI, 4096, .inl (aN (va_up (va_cpy row D 0 (16 * rn) k) (16 * rn + k) (row k))))), (qr, .inl (cI, 16, .inl (aN row)))] H := hP
          have hD : va_D A [(h0, .inr (3, [.ref q4, .int (bI le), .int (nI wl), .int wd])), (q4, .inl (cI, 4096, .inl (aN (va_up (va_cpy row D 0 (16 * rn) k) (16 * rn + k) (row k))))), (qr, .inl (cI, 16, .inl (aN row)))] := hD
          have hu_3 : va_up (va_cpy row D 0 (16 * rn) k) (16 * rn + k) (row k) = va_cpy row D 0 (16 * rn) (k + 1) := cpy_up (by omega) (by rw [Nat.zero_add])
          rw [hu_3] at hP hD
          refine lv_iinc (v := nI (k + 1)) (lv' := [(3, .int (nI (k + 1))), (0, .ref h0), (1, .int (nI rn)), (2, .ref qr)]) hx hb dX3_putRow_48 hl (k := 0) rfl (nr_inc _ _ (by omega)) (by decide) rfl (fun ls hl => ?_)
          refine lv_goto (tgt := 28) hx hb dX3_putRow_51 (by decide) ?_
          exact ih_2 (k + 1) (by omega) (by omega) _ _ hP hD hS ls (lv_sub hl [0, 1, 2, 3] rfl)
    exact loop_1 (16 + 1) 0 (by omega) (by omega) _ _ (by rw [cpy_0]; exact hP) (by rw [cpy_0]; exact hD) hS ls (lv_sub hl [0, 1, 2, 3] rfl)
  · refine lv_aload_n hx hb dX3_putRow_7 rfl (lv_at hl 0 rfl) ?_
    refine va_get (D := dd) (ci := 3) (v := .int (nI wl)) (C := RX3) (T := TX3) (N := 4) hx hb hts hin_X3 hown hK.1 hP 0 rfl rfl 2 (by decide) hf_23 (fun _ h9 => h9) rfl dX3_putRow_8 ?_
    refine nr_if_ne (tgt := 16) hx hb (by omega) dX3_putRow_11 (by decide) (fun c_11 => ?_) (fun c_11 => ?_)
    · refine lv_aload_n hx hb dX3_putRow_16 rfl (lv_at hl 0 rfl) ?_
      refine lv_dup hx hb dX3_putRow_17 rfl ?_
      refine va_get (D := dd) (ci := 3) (v := .int (nI wl)) (C := RX3) (T := TX3) (N := 4) hx hb hts hin_X3 hown hK.1 hP 0 rfl rfl 2 (by decide) hf_23 (fun _ h9 => h9) rfl dX3_putRow_18 ?_
      refine lv_iconst (v := nI 1) hx hb dX3_putRow_21 (by decide) ?_
      refine nr_isub (wl - 1) (by omega) hx hb (by omega) dX3_putRow_22 ?_
      refine va_put (D := dd) (ci := 3) (v := .int (nI (wl - 1))) (ty := .int) (C := RX3) (T := TX3) (N := 4) hx hb hts hin_X3 tyX3 tyX3_ok nmX3 hown hK.1 hP hD hS 0 rfl rfl 2 (by decide) hf_23 (fun _ h9 => h9) rfl (by decide +kernel) rfl rfl (Nat.le_of_ble_eq_true rfl) dX3_putRow_23 (fun H locs hP hD hS => ?_)
      have hP : va_P dd vwCl [(h0, .inr (3, [.ref q4, .int (bI le), .int (nI (wl - 1)), .int wd])), (q4, .inl (cI, 4096, .inl (aN D))), (qr, .inl (cI, 16, .inl (aN row)))] H := hP
      have hD : va_D A [(h0, .inr (3, [.ref q4, .int (bI le), .int (nI (wl - 1)), .int wd])), (q4, .inl (cI, 4096, .inl (aN D))), (qr, .inl (cI, 16, .inl (aN row)))] := hD
      refine lv_iconst (v := nI 0) hx hb dX3_putRow_26 (by decide) ?_
      refine lv_istore_n (lv' := [(3, .int (nI 0)), (0, .ref h0), (1, .int (nI rn)), (2, .ref qr)]) hx hb dX3_putRow_27 rfl hl (by decide) rfl (fun ls hl => ?_)
      have loop_4 : ∀ (n k : Nat), k ≤ 16 → 16 + 1 ≤ k + n → ∀ (H : Heap) (locs : List Loc), va_P dd vwCl [(h0, .inr (3, [.ref q4, .int (bI le), .int (nI (wl - 1)), .int wd])), (q4, .inl (cI, 4096, .inl (aN (va_cpy row D 0 (16 * rn) k)))), (qr, .inl (cI, 16, .inl (aN row)))] H → va_D A [(h0, .inr (3, [.ref q4, .int (bI le), .int (nI (wl - 1)), .int wd])), (q4, .inl (cI, 4096, .inl (aN (va_cpy row D 0 (16 * rn) k)))), (qr, .inl (cI, 16, .inl (aN row)))] → va_S A s.heap H locs → ∀ ls : Array Slot, lv_has ls 4 [(3, .int (nI k)), (0, .ref h0), (1, .int (nI rn)), (2, .ref qr)] → W p l e (({ frames := 0, cells := 0, slots := 0, locals := 0 } : Room)) s m ([.ref h0, .int (nI rn), .ref qr] : List Value).toArray below meth c H locs 0 0 (MQ below (va_Qi (fun (r : Int32) (u : Bool × (Nat → Nat) × Nat × Int32) => r = bI u.1 ∧ ((u.1, u.2.1, u.2.2.1, u.2.2.2) = mPut le wl wd D rn row)) (fun u t => qa dd A [(h0, .inr (3, [.ref q4, .int (bI le), .int (nI (u.2.2.1)), .int u.2.2.2])), (q4, .inl (cI, 4096, .inl (aN u.2.1))), (qr, .inl (cI, 16, .inl (aN row)))] t) A) ([.ref h0, .int (nI rn), .ref qr] : List Value).toArray s 0 0 A) (F0 m 28 ls []) := by
        intro n
        induction n with
        | zero => intro k h1 h2; exact absurd h2 (by omega)
        | succ n ih =>
          intro k hk_k hn_k H locs hP hD hS ls hl
          have ih_5 := ih
          refine lv_iload_n hx hb dX3_putRow_28 rfl (lv_at hl 0 rfl) ?_
          refine lv_bipush (v := nI 16) hx hb dX3_putRow_29 (by decide) ?_
          refine nr_ge (tgt := 54) hx hb (by omega) (by omega) dX3_putRow_31 (by decide) (fun c_31 => ?_) (fun c_31 => ?_)
          · have ek_k : k = 16 := by omega
            subst ek_k
            refine lv_aload_n hx hb dX3_putRow_54 rfl (lv_at hl 1 rfl) ?_
            refine lv_dup hx hb dX3_putRow_55 rfl ?_
            refine va_get (D := dd) (ci := 3) (v := .int wd) (C := RX3) (T := TX3) (N := 4) hx hb hts hin_X3 hown hK.1 hP 0 rfl rfl 3 (by decide) hf_19 (fun _ h9 => h9) rfl dX3_putRow_56 ?_
            refine lv_iconst (v := nI 1) hx hb dX3_putRow_59 (by decide) ?_
            refine lv_iadd hx hb dX3_putRow_60 ?_
            refine va_put (D := dd) (ci := 3) (v := .int (wd + nI 1)) (ty := .int) (C := RX3) (T := TX3) (N := 4) hx hb hts hin_X3 tyX3 tyX3_ok nmX3 hown hK.1 hP hD hS 0 rfl rfl 3 (by decide) hf_19 (fun _ h9 => h9) rfl (by decide +kernel) rfl rfl (Nat.le_of_ble_eq_true rfl) dX3_putRow_61 (fun H locs hP hD hS => ?_)
            have hP : va_P dd vwCl [(h0, .inr (3, [.ref q4, .int (bI le), .int (nI (wl - 1)), .int (wd + nI 1)])), (q4, .inl (cI, 4096, .inl (aN (va_cpy row D 0 (16 * rn) 16)))), (qr, .inl (cI, 16, .inl (aN row)))] H := hP
            have hD : va_D A [(h0, .inr (3, [.ref q4, .int (bI le), .int (nI (wl - 1)), .int (wd + nI 1)])), (q4, .inl (cI, 4096, .inl (aN (va_cpy row D 0 (16 * rn) 16)))), (qr, .inl (cI, 16, .inl (aN row)))] := hD
            refine lv_iconst (v := nI 1) hx hb dX3_putRow_64 (by decide) ?_
            have hP9 := hP.sub (ws' := [(h0, .inr (3, [.ref q4, .int (bI le), .int (nI (wl - 1)), .int (wd + nI 1)])), (q4, .inl (cI, 4096, .inl (aN (va_cpy row D 0 (16 * rn) 16)))), (qr, .inl (cI, 16, .inl (aN row)))]) [0, 1, 2] rfl
            have hD9 := hD.sub (ws' := [(h0, .inr (3, [.ref q4, .int (bI le), .int (nI (wl - 1)), .int (wd + nI 1)])), (q4, .inl (cI, 4096, .inl (aN (va_cpy row D 0 (16 * rn) 16)))), (qr, .inl (cI, 16, .inl (aN row)))]) [0, 1, 2] (by decide) rfl
            exact W.zret (v := nI 1) hx hb hr (by decide) (fun t ht hW => ⟨⟨nI 1, (true, va_cpy row D 0 (16 * rn) 16, wl - 1, wd + nI 1), rfl, ⟨rfl, by simp [mPut, cpW, c_4, c_11]⟩, by rw [ht]; exact hP9, hD9⟩, hS.F ht⟩) hS.2.2 dX3_putRow_65
          · refine lv_aload_n hx hb dX3_putRow_34 rfl (lv_at hl 1 rfl) ?_
            refine va_get (D := dd) (ci := 3) (v := .ref q4) (C := RX3) (T := TX3) (N := 4) hx hb hts hin_X3 hown hK.1 hP 0 rfl rfl 0 (by decide) hf_9 (fun _ h9 => h9) rfl dX3_putRow_35 ?_
            refine lv_iload_n hx hb dX3_putRow_38 rfl (lv_at hl 2 rfl) ?_
            refine lv_bipush (v := nI 16) hx hb dX3_putRow_39 (by decide) ?_
            refine nr_imul (16 * rn) (by omega) hx hb dX3_putRow_41 ?_
            refine lv_iload_n hx hb dX3_putRow_42 rfl (lv_at hl 0 rfl) ?_
            refine nr_iadd (16 * rn + k) (by omega) hx hb dX3_putRow_43 ?_
            refine lv_aload_n hx hb dX3_putRow_44 rfl (lv_at hl 3 rfl) ?_
            refine lv_iload_n hx hb dX3_putRow_45 rfl (lv_at hl 0 rfl) ?_
            refine nr_iald (f := row) hx hb hK hP 2 rfl (by omega) (by decide) dX3_putRow_46 ?_
            refine nr_iast (f := va_cpy row D 0 (16 * rn) k) (v := row k) hx hb hK hP hD hS 1 rfl (by omega) (by decide) dX3_putRow_47 (fun H locs hP hD hS => ?_)
            have hP : va_P dd vwCl [(h0, .inr (3, [.ref q4, .int (bI le), .int (nI (wl - 1)), .int wd])), (q4, .inl (cI, 4096, .inl (aN (va_up (va_cpy row D 0 (16 * rn) k) (16 * rn + k) (row k))))), (qr, .inl (cI, 16, .inl (aN row)))] H := hP
            have hD : va_D A [(h0, .inr (3, [.ref q4, .int (bI le), .int (nI (wl - 1)), .int wd])), (q4, .inl (cI, 4096, .inl (aN (va_up (va_cpy row D 0 (16 * rn) k) (16 * rn + k) (row k))))), (qr, .inl (cI, 16, .inl (aN row)))] := hD
            have hu_6 : va_up (va_cpy row D 0 (16 * rn) k) (16 * rn + k) (row k) = va_cpy row D 0 (16 * rn) (k + 1) := cpy_up (by omega) (by rw [Nat.zero_add])
            rw [hu_6] at hP hD
            refine lv_iinc (v := nI (k + 1)) (lv' := [(3, .int (nI (k + 1))), (0, .ref h0), (1, .int (nI rn)), (2, .ref qr)]) hx hb dX3_putRow_48 hl (k := 0) rfl (nr_inc _ _ (by omega)) (by decide) rfl (fun ls hl => ?_)
            refine lv_goto (tgt := 28) hx hb dX3_putRow_51 (by decide) ?_
            exact ih_5 (k + 1) (by omega) (by omega) _ _ hP hD hS ls (lv_sub hl [0, 1, 2, 3] rfl)
      exact loop_4 (16 + 1) 0 (by omega) (by omega) _ _ (by rw [cpy_0]; exact hP) (by rw [cpy_0]; exact hD) hS ls (lv_sub hl [0, 1, 2, 3] rfl)
    · refine lv_iconst (v := nI 0) hx hb dX3_putRow_14 (by decide) ?_
      have hP9 := hP.sub (ws' := [(h0, .inr (3, [.ref q4, .int (bI le), .int (nI wl), .int wd])), (q4, .inl (cI, 4096, .inl (aN D))), (qr, .inl (cI, 16, .inl (aN row)))]) [0, 1, 2] rfl
      have hD9 := hD.sub (ws' := [(h0, .inr (3, [.ref q4, .int (bI le), .int (nI wl), .int wd])), (q4, .inl (cI, 4096, .inl (aN D))), (qr, .inl (cI, 16, .inl (aN row)))]) [0, 1, 2] (by decide) rfl
      exact W.zret (v := nI 0) hx hb hr (by decide) (fun t ht hW => ⟨⟨nI 0, (false, D, wl, wd), rfl, ⟨rfl, by simp [mPut, cpW, c_4, c_11]⟩, by rw [ht]; exact hP9, hD9⟩, hS.F ht⟩) hS.2.2 dX3_putRow_15

set_option maxHeartbeats 4000000 in
set_option maxRecDepth 100000 in
theorem kX0_clear (l : Launch) (dd : va_G) (cI cZ cR cJ : ClassId) (h0 : Nat) (q1 : Nat) (T : Nat → Bool) (sz : Nat) : Met l yX0_clear wsX0_clear ({ frames := 0, cells := 0, slots := 0, locals := 0 }) (va_Pc [.ref h0] (qm dd cI cZ cR cJ sz [(h0, .inr (0, [.ref q1])), (q1, .inl (cZ, 64, .inl (aB T)))])) (va_Qv (fun u : Unit => True) (fun u t => qa dd (va_A [(h0, .inr (0, [.ref q1])), (q1, .inl (cZ, 64, .inl (aB T)))] sz) [(h0, .inr (0, [.ref q1])), (q1, .inl (cZ, 64, .inl (aB (clT T))))] t) (va_A [(h0, .inr (0, [.ref q1])), (q1, .inl (cZ, 64, .inl (aB T)))] sz)) 0 0 (va_A [(h0, .inr (0, [.ref q1])), (q1, .inl (cZ, 64, .inl (aB T)))] sz) := by
  refine mk_mut (cc := cX0_clear) (maxL := 2) (ret := none) (Qf := fun A => va_Qv (fun u : Unit => True) (fun u t => qa dd A [(h0, .inr (0, [.ref q1])), (q1, .inl (cZ, 64, .inl (aB (clT T))))] t) A) (by decide) rfl (Nat.le_of_ble_eq_true rfl) ?_
  intro p e s m below meth c A hx hb hr hts hown hlocks hml hin hP hD hA hS hK ls hl
  have hown : s.vm.findClass RX0 = some m.cls := hown
  have hl : lv_has ls 2 [(0, .ref h0)] := hl
  have hf_9 := hts (.fieldLink RX0 9 "RecordSystem$BlockMap" "taken" "[Z") (by decide +kernel)
  have hin_X0 : ∀ w ∈ wsX00, w ∈ wsX0_clear := by decide +kernel
  refine lv_bipush (v := nI 8) hx hb dX0_clear_0 (by decide) ?_
  refine lv_istore_n (lv' := [(1, .int (nI 8)), (0, .ref h0)]) hx hb dX0_clear_2 rfl hl (by decide) rfl (fun ls hl => ?_)
  have loop_1 : ∀ (n k : Nat), k ≤ 64 → 64 + 1 ≤ k + n → (8 ≤ k) → ∀ (H : Heap) (locs : List Loc), va_P dd vwCl [(h0, .inr (0, [.ref q1])), (q1, .inl (cZ, 64, .inl (aB (va_cpy (fun _ => false) T 0 8 (k - 8)))))] H → va_D A [(h0, .inr (0, [.ref q1])), (q1, .inl (cZ, 64, .inl (aB (va_cpy (fun _ => false) T 0 8 (k - 8)))))] → va_S A s.heap H locs → ∀ ls : Array Slot, lv_has ls 2 [(1, .int (nI k)), (0, .ref h0)] → W p l e (({ frames := 0, cells := 0, slots := 0, locals := 0 } : Room)) s m ([.ref h0] : List Value).toArray below meth c H locs 0 0 (MQ below (va_Qv (fun u : Unit => True) (fun u t => qa dd A [(h0, .inr (0, [.ref q1])), (q1, .inl (cZ, 64, .inl (aB (clT T))))] t) A) ([.ref h0] : List Value).toArray s 0 0 A) (F0 m 3 ls []) := by
    intro n
    induction n with
    | zero => intro k h1 h2; exact absurd h2 (by omega)
    | succ n ih =>
      intro k hk_k hn_k h8 H locs hP hD hS ls hl
      have ih_2 := ih
      refine lv_iload_n hx hb dX0_clear_3 rfl (lv_at hl 0 rfl) ?_
      refine lv_bipush (v := nI 64) hx hb dX0_clear_4 (by decide) ?_
      refine nr_ge (tgt := 22) hx hb (by omega) (by omega) dX0_clear_6 (by decide) (fun c_6 => ?_) (fun c_6 => ?_)
      · have ek_k : k = 64 := by omega
        subst ek_k
        have hP9 := hP.sub (ws' := [(h0, .inr (0, [.ref q1])), (q1, .inl (cZ, 64, .inl (aB (va_cpy (fun _ => false) T 0 8 (64 - 8)))))]) [0, 1] rfl
        have hD9 := hD.sub (ws' := [(h0, .inr (0, [.ref q1])), (q1, .inl (cZ, 64, .inl (aB (va_cpy (fun _ => false) T 0 8 (64 - 8)))))]) [0, 1] (by decide) rfl
        exact W.vret hx hb hr (fun t ht hW => ⟨⟨(), rfl, trivial, by rw [ht]; exact hP9, hD9⟩, hS.F ht⟩) hS.2.2 dX0_clear_22
      · refine lv_aload_n hx hb dX0_clear_9 rfl (lv_at hl 1 rfl) ?_
        refine va_get (D := dd) (ci := 0) (v := .ref q1) (C := RX0) (T := TX0) (N := 1) hx hb hts hin_X0 hown hK.1 hP 0 rfl rfl 0 (by decide) hf_9 (fun _ h9 => h9) rfl dX0_clear_10 ?_
        refine lv_iload_n hx hb dX0_clear_13 rfl (lv_at hl 0 rfl) ?_
        refine lv_iconst (v := nI 0) hx hb dX0_clear_14 (by decide) ?_
        refine nr_zast (f := va_cpy (fun _ => false) T 0 8 (k - 8)) false (by rfl) hx hb hK hP hD hS 1 rfl (by omega) (by decide) dX0_clear_15 (fun H locs hP hD hS => ?_)
        have hP : va_P dd vwCl [(h0, .inr (0, [.ref q1])), (q1, .inl (cZ, 64, .inl (aB (va_up (va_cpy (fun _ => false) T 0 8 (k - 8)) k false))))] H := hP
        have hD : va_D A [(h0, .inr (0, [.ref q1])), (q1, .inl (cZ, 64, .inl (aB (va_up (va_cpy (fun _ => false) T 0 8 (k - 8)) k false))))] := hD
        have hu_3 : va_up (va_cpy (fun _ => false) T 0 8 (k - 8)) k false = va_cpy (fun _ => false) T 0 8 (k + 1 - 8) := by rw [show k + 1 - 8 = (k - 8) + 1 by omega]; exact cpy_up (by omega) rfl
        rw [hu_3] at hP hD
        refine lv_iinc (v := nI (k + 1)) (lv' := [(1, .int (nI (k + 1))), (0, .ref h0)]) hx hb dX0_clear_16 hl (k := 0) rfl (nr_inc _ _ (by omega)) (by decide) rfl (fun ls hl => ?_)
        refine lv_goto (tgt := 3) hx hb dX0_clear_19 (by decide) ?_
        exact ih_2 (k + 1) (by omega) (by omega) (by omega) _ _ hP hD hS ls (lv_sub hl [0, 1] rfl)
  exact loop_1 (64 + 1) 8 (by omega) (by omega) (by omega) _ _ (by rw [cpy_0]; exact hP) (by rw [cpy_0]; exact hD) hS ls (lv_sub hl [0, 1] rfl)

set_option maxHeartbeats 4000000 in
set_option maxRecDepth 100000 in
theorem kX0_take (l : Launch) (dd : va_G) (cI cZ cR cJ : ClassId) (h0 : Nat) (q1 : Nat) (T : Nat → Bool) (n : Nat) (sz : Nat) (hn : n < 256) : Met l yX0_take wsX0_take ({ frames := 0, cells := 0, slots := 0, locals := 0 }) (va_Pc [.ref h0, .int (nI n)] (qm dd cI cZ cR cJ sz [(h0, .inr (0, [.ref q1])), (q1, .inl (cZ, 64, .inl (aB T)))])) (va_Qv (fun u : Unit => True) (fun u t => qa dd (va_A [(h0, .inr (0, [.ref q1])), (q1, .inl (cZ, 64, .inl (aB T)))] sz) [(h0, .inr (0, [.ref q1])), (q1, .inl (cZ, 64, .inl (aB (va_up T (n % 64) true))))] t) (va_A [(h0, .inr (0, [.ref q1])), (q1, .inl (cZ, 64, .inl (aB T)))] sz)) 0 0 (va_A [(h0, .inr (0, [.ref q1])), (q1, .inl (cZ, 64, .inl (aB T)))] sz) := by
  refine mk_mut (cc := cX0_take) (maxL := 2) (ret := none) (Qf := fun A => va_Qv (fun u : Unit => True) (fun u t => qa dd A [(h0, .inr (0, [.ref q1])), (q1, .inl (cZ, 64, .inl (aB (va_up T (n % 64) true))))] t) A) (by decide) rfl (Nat.le_of_ble_eq_true rfl) ?_
  intro p e s m below meth c A hx hb hr hts hown hlocks hml hin hP hD hA hS hK ls hl
  have hown : s.vm.findClass RX0 = some m.cls := hown
  have hl : lv_has ls 2 [(0, .ref h0), (1, .int (nI n))] := hl
  have hf_9 := hts (.fieldLink RX0 9 "RecordSystem$BlockMap" "taken" "[Z") (by decide +kernel)
  have hin_X0 : ∀ w ∈ wsX00, w ∈ wsX0_take := by decide +kernel
  refine lv_aload_n hx hb dX0_take_0 rfl (lv_at hl 0 rfl) ?_
  refine va_get (D := dd) (ci := 0) (v := .ref q1) (C := RX0) (T := TX0) (N := 1) hx hb hts hin_X0 hown hK.1 hP 0 rfl rfl 0 (by decide) hf_9 (fun _ h9 => h9) rfl dX0_take_1 ?_
  refine lv_iload_n hx hb dX0_take_4 rfl (lv_at hl 1 rfl) ?_
  refine lv_bipush (v := nI 64) hx hb dX0_take_5 (by decide) ?_
  refine nr_irem ((n % 64)) (by omega) hx hb (by omega) (by omega) (by omega) dX0_take_7 ?_
  refine lv_iconst (v := nI 1) hx hb dX0_take_8 (by decide) ?_
  refine nr_zast (f := T) true (by rfl) hx hb hK hP hD hS 1 rfl (by omega) (by decide) dX0_take_9 (fun H locs hP hD hS => ?_)
  have hP : va_P dd vwCl [(h0, .inr (0, [.ref q1])), (q1, .inl (cZ, 64, .inl (aB (va_up T (n % 64) true))))] H := hP
  have hD : va_D A [(h0, .inr (0, [.ref q1])), (q1, .inl (cZ, 64, .inl (aB (va_up T (n % 64) true))))] := hD
  have hP9 := hP.sub (ws' := [(h0, .inr (0, [.ref q1])), (q1, .inl (cZ, 64, .inl (aB (va_up T (n % 64) true))))]) [0, 1] rfl
  have hD9 := hD.sub (ws' := [(h0, .inr (0, [.ref q1])), (q1, .inl (cZ, 64, .inl (aB (va_up T (n % 64) true))))]) [0, 1] (by decide) rfl
  exact W.vret hx hb hr (fun t ht hW => ⟨⟨(), rfl, trivial, by rw [ht]; exact hP9, hD9⟩, hS.F ht⟩) hS.2.2 dX0_take_10

set_option maxHeartbeats 4000000 in
set_option maxRecDepth 100000 in
theorem kX0_giveBack (l : Launch) (dd : va_G) (cI cZ cR cJ : ClassId) (h0 : Nat) (q1 : Nat) (T : Nat → Bool) (n : Nat) (sz : Nat) (hn : n < 256) : Met l yX0_giveBack wsX0_giveBack ({ frames := 0, cells := 0, slots := 0, locals := 0 }) (va_Pc [.ref h0, .int (nI n)] (qm dd cI cZ cR cJ sz [(h0, .inr (0, [.ref q1])), (q1, .inl (cZ, 64, .inl (aB T)))])) (va_Qv (fun u : Unit => True) (fun u t => qa dd (va_A [(h0, .inr (0, [.ref q1])), (q1, .inl (cZ, 64, .inl (aB T)))] sz) [(h0, .inr (0, [.ref q1])), (q1, .inl (cZ, 64, .inl (aB (va_up T (n % 64) (decide (n % 64 < 8))))))] t) (va_A [(h0, .inr (0, [.ref q1])), (q1, .inl (cZ, 64, .inl (aB T)))] sz)) 0 0 (va_A [(h0, .inr (0, [.ref q1])), (q1, .inl (cZ, 64, .inl (aB T)))] sz) := by
  refine mk_mut (cc := cX0_giveBack) (maxL := 3) (ret := none) (Qf := fun A => va_Qv (fun u : Unit => True) (fun u t => qa dd A [(h0, .inr (0, [.ref q1])), (q1, .inl (cZ, 64, .inl (aB (va_up T (n % 64) (decide (n % 64 < 8))))))] t) A) (by decide) rfl (Nat.le_of_ble_eq_true rfl) ?_
  intro p e s m below meth c A hx hb hr hts hown hlocks hml hin hP hD hA hS hK ls hl
  have hown : s.vm.findClass RX0 = some m.cls := hown
  have hl : lv_has ls 3 [(0, .ref h0), (1, .int (nI n))] := hl
  have hf_9 := hts (.fieldLink RX0 9 "RecordSystem$BlockMap" "taken" "[Z") (by decide +kernel)
  have hin_X0 : ∀ w ∈ wsX00, w ∈ wsX0_giveBack := by decide +kernel
  refine lv_iload_n hx hb dX0_giveBack_0 rfl (lv_at hl 1 rfl) ?_
  refine lv_bipush (v := nI 64) hx hb dX0_giveBack_1 (by decide) ?_
  refine nr_irem ((n % 64)) (by omega) hx hb (by omega) (by omega) (by omega) dX0_giveBack_3 ?_
  refine lv_istore_n (lv' := [(2, .int (nI ((n % 64)))), (0, .ref h0), (1, .int (nI n))]) hx hb dX0_giveBack_4 rfl hl (by decide) rfl (fun ls hl => ?_)
  refine lv_aload_n hx hb dX0_giveBack_5 rfl (lv_at hl 1 rfl) ?_
  refine va_get (D := dd) (ci := 0) (v := .ref q1) (C := RX0) (T := TX0) (N := 1) hx hb hts hin_X0 hown hK.1 hP 0 rfl rfl 0 (by decide) hf_9 (fun _ h9 => h9) rfl dX0_giveBack_6 ?_
  refine lv_iload_n hx hb dX0_giveBack_9 rfl (lv_at hl 0 rfl) ?_
  refine lv_iload_n hx hb dX0_giveBack_10 rfl (lv_at hl 0 rfl) ?_
  refine lv_bipush (v := nI 8) hx hb dX0_giveBack_11 (by decide) ?_
  refine nr_ge (tgt := 20) hx hb (by omega) (by omega) dX0_giveBack_13 (by decide) (fun c_13 => ?_) (fun c_13 => ?_)
  · refine lv_iconst (v := nI 0) hx hb dX0_giveBack_20 (by decide) ?_
    refine nr_zast (f := T) false (by rfl) hx hb hK hP hD hS 1 rfl (by omega) (by decide) dX0_giveBack_21 (fun H locs hP hD hS => ?_)
    have hP : va_P dd vwCl [(h0, .inr (0, [.ref q1])), (q1, .inl (cZ, 64, .inl (aB (va_up T (n % 64) false))))] H := hP
    have hD : va_D A [(h0, .inr (0, [.ref q1])), (q1, .inl (cZ, 64, .inl (aB (va_up T (n % 64) false))))] := hD
    have hu_1 : va_up T (n % 64) false = va_up T (n % 64) (decide (n % 64 < 8)) := by congr 1; simp; omega
    rw [hu_1] at hP hD
    have hP9 := hP.sub (ws' := [(h0, .inr (0, [.ref q1])), (q1, .inl (cZ, 64, .inl (aB (va_up T (n % 64) (decide (n % 64 < 8))))))]) [0, 1] rfl
    have hD9 := hD.sub (ws' := [(h0, .inr (0, [.ref q1])), (q1, .inl (cZ, 64, .inl (aB (va_up T (n % 64) (decide (n % 64 < 8))))))]) [0, 1] (by decide) rfl
    exact W.vret hx hb hr (fun t ht hW => ⟨⟨(), rfl, trivial, by rw [ht]; exact hP9, hD9⟩, hS.F ht⟩) hS.2.2 dX0_giveBack_22
  · refine lv_iconst (v := nI 1) hx hb dX0_giveBack_16 (by decide) ?_
    refine lv_goto (tgt := 21) hx hb dX0_giveBack_17 (by decide) ?_
    refine nr_zast (f := T) true (by rfl) hx hb hK hP hD hS 1 rfl (by omega) (by decide) dX0_giveBack_21 (fun H locs hP hD hS => ?_)
    have hP : va_P dd vwCl [(h0, .inr (0, [.ref q1])), (q1, .inl (cZ, 64, .inl (aB (va_up T (n % 64) true))))] H := hP
    have hD : va_D A [(h0, .inr (0, [.ref q1])), (q1, .inl (cZ, 64, .inl (aB (va_up T (n % 64) true))))] := hD
    have hu_2 : va_up T (n % 64) true = va_up T (n % 64) (decide (n % 64 < 8)) := by congr 1; simp; omega
    rw [hu_2] at hP hD
    have hP9 := hP.sub (ws' := [(h0, .inr (0, [.ref q1])), (q1, .inl (cZ, 64, .inl (aB (va_up T (n % 64) (decide (n % 64 < 8))))))]) [0, 1] rfl
    have hD9 := hD.sub (ws' := [(h0, .inr (0, [.ref q1])), (q1, .inl (cZ, 64, .inl (aB (va_up T (n % 64) (decide (n % 64 < 8))))))]) [0, 1] (by decide) rfl
    exact W.vret hx hb hr (fun t ht hW => ⟨⟨(), rfl, trivial, by rw [ht]; exact hP9, hD9⟩, hS.F ht⟩) hS.2.2 dX0_giveBack_22

set_option maxHeartbeats 4000000 in
set_option maxRecDepth 100000 in
theorem kX0_giveLeast (l : Launch) (dd : va_G) (cI cZ cR cJ : ClassId) (h0 : Nat) (q1 : Nat) (T : Nat → Bool) (sz : Nat) : Met l yX0_giveLeast wsX0_giveLeast ({ frames := 0, cells := 0, slots := 0, locals := 0 }) (va_Pc [.ref h0] (qm dd cI cZ cR cJ sz [(h0, .inr (0, [.ref q1])), (q1, .inl (cZ, 64, .inl (aB T)))])) (va_Qi (fun (r : Int32) (u : (Nat → Bool)) => (r, u) = lsF T 56 8) (fun u t => qa dd (va_A [(h0, .inr (0, [.ref q1])), (q1, .inl (cZ, 64, .inl (aB T)))] sz) [(h0, .inr (0, [.ref q1])), (q1, .inl (cZ, 64, .inl (aB u)))] t) (va_A [(h0, .inr (0, [.ref q1])), (q1, .inl (cZ, 64, .inl (aB T)))] sz)) 0 0 (va_A [(h0, .inr (0, [.ref q1])), (q1, .inl (cZ, 64, .inl (aB T)))] sz) := by
  refine mk_mut (cc := cX0_giveLeast) (maxL := 2) (ret := (some .int)) (Qf := fun A => va_Qi (fun (r : Int32) (u : (Nat → Bool)) => (r, u) = lsF T 56 8) (fun u t => qa dd A [(h0, .inr (0, [.ref q1])), (q1, .inl (cZ, 64, .inl (aB u)))] t) A) (by decide) rfl (Nat.le_of_ble_eq_true rfl) ?_
  intro p e s m below meth c A hx hb hr hts hown hlocks hml hin hP hD hA hS hK ls hl
  have hown : s.vm.findClass RX0 = some m.cls := hown
  have hl : lv_has ls 2 [(0, .ref h0)] := hl
  have hf_9 := hts (.fieldLink RX0 9 "RecordSystem$BlockMap" "taken" "[Z") (by decide +kernel)
  have hin_X0 : ∀ w ∈ wsX00, w ∈ wsX0_giveLeast := by decide +kernel
  refine lv_bipush (v := nI 8) hx hb dX0_giveLeast_0 (by decide) ?_
  refine lv_istore_n (lv' := [(1, .int (nI 8)), (0, .ref h0)]) hx hb dX0_giveLeast_2 rfl hl (by decide) rfl (fun ls hl => ?_)
  have loop_1 : ∀ (n k : Nat), k ≤ 64 → 64 + 1 ≤ k + n → (lsF T 56 8 = lsF T (64 - k) k) → ∀ (H : Heap) (locs : List Loc), va_P dd vwCl [(h0, .inr (0, [.ref q1])), (q1, .inl (cZ, 64, .inl (aB T)))] H → va_D A [(h0, .inr (0, [.ref q1])), (q1, .inl (cZ, 64, .inl (aB T)))] → va_S A s.heap H locs → ∀ ls : Array Slot, lv_has ls 2 [(1, .int (nI k)), (0, .ref h0)] → W p l e (({ frames := 0, cells := 0, slots := 0, locals := 0 } : Room)) s m ([.ref h0] : List Value).toArray below meth c H locs 0 0 (MQ below (va_Qi (fun (r : Int32) (u : (Nat → Bool)) => (r, u) = lsF T 56 8) (fun u t => qa dd A [(h0, .inr (0, [.ref q1])), (q1, .inl (cZ, 64, .inl (aB u)))] t) A) ([.ref h0] : List Value).toArray s 0 0 A) (F0 m 3 ls []) := by
    intro n
    induction n with
    | zero => intro k h1 h2; exact absurd h2 (by omega)
    | succ n ih =>
      intro k hk_k hn_k hf H locs hP hD hS ls hl
      have ih_2 := ih
      refine lv_iload_n hx hb dX0_giveLeast_3 rfl (lv_at hl 0 rfl) ?_
      refine lv_bipush (v := nI 64) hx hb dX0_giveLeast_4 (by decide) ?_
      refine nr_ge (tgt := 33) hx hb (by omega) (by omega) dX0_giveLeast_6 (by decide) (fun c_6 => ?_) (fun c_6 => ?_)
      · have ek_k : k = 64 := by omega
        subst ek_k
        refine lv_iconst (v := -1) hx hb dX0_giveLeast_33 (by decide) ?_
        have hP9 := hP.sub (ws' := [(h0, .inr (0, [.ref q1])), (q1, .inl (cZ, 64, .inl (aB T)))]) [0, 1] rfl
        have hD9 := hD.sub (ws' := [(h0, .inr (0, [.ref q1])), (q1, .inl (cZ, 64, .inl (aB T)))]) [0, 1] (by decide) rfl
        exact W.iret (v := (-1 : Int32)) hx hb hr (fun t ht hW => ⟨⟨(-1 : Int32), T, rfl, by rw [hf]; exact (lsF_end 64).symm, by rw [ht]; exact hP9, hD9⟩, hS.F ht⟩) hS.2.2 dX0_giveLeast_34
      · refine lv_aload_n hx hb dX0_giveLeast_9 rfl (lv_at hl 1 rfl) ?_
        refine va_get (D := dd) (ci := 0) (v := .ref q1) (C := RX0) (T := TX0) (N := 1) hx hb hts hin_X0 hown hK.1 hP 0 rfl rfl 0 (by decide) hf_9 (fun _ h9 => h9) rfl dX0_giveLeast_10 ?_
        refine lv_iload_n hx hb dX0_giveLeast_13 rfl (lv_at hl 0 rfl) ?_
        refine nr_zald (f := T) hx hb hK hP 1 rfl (by omega) (by decide) dX0_giveLeast_14 ?_
        refine br_if_ne (tgt := 27) hx hb dX0_giveLeast_15 (by decide) (fun c_15 => ?_) (fun c_15 => ?_)
        · refine lv_iinc (v := nI (k + 1)) (lv' := [(1, .int (nI (k + 1))), (0, .ref h0)]) hx hb dX0_giveLeast_27 hl (k := 0) rfl (nr_inc _ _ (by omega)) (by decide) rfl (fun ls hl => ?_)
          refine lv_goto (tgt := 3) hx hb dX0_giveLeast_30 (by decide) ?_
          exact ih_2 (k + 1) (by omega) (by omega) (by rw [hf, lsF_at (by omega)]; simp [c_6, c_15]) _ _ hP hD hS ls (lv_sub hl [0, 1] rfl)
        · refine lv_aload_n hx hb dX0_giveLeast_18 rfl (lv_at hl 1 rfl) ?_
          refine va_get (D := dd) (ci := 0) (v := .ref q1) (C := RX0) (T := TX0) (N := 1) hx hb hts hin_X0 hown hK.1 hP 0 rfl rfl 0 (by decide) hf_9 (fun _ h9 => h9) rfl dX0_giveLeast_19 ?_
          refine lv_iload_n hx hb dX0_giveLeast_22 rfl (lv_at hl 0 rfl) ?_
          refine lv_iconst (v := nI 1) hx hb dX0_giveLeast_23 (by decide) ?_
          refine nr_zast (f := T) true (by rfl) hx hb hK hP hD hS 1 rfl (by omega) (by decide) dX0_giveLeast_24 (fun H locs hP hD hS => ?_)
          have hP : va_P dd vwCl [(h0, .inr (0, [.ref q1])), (q1, .inl (cZ, 64, .inl (aB (va_up T k true))))] H := hP
          have hD : va_D A [(h0, .inr (0, [.ref q1])), (q1, .inl (cZ, 64, .inl (aB (va_up T k true))))] := hD
          refine lv_iload_n hx hb dX0_giveLeast_25 rfl (lv_at hl 0 rfl) ?_
          have hP9 := hP.sub (ws' := [(h0, .inr (0, [.ref q1])), (q1, .inl (cZ, 64, .inl (aB (va_up T k true))))]) [0, 1] rfl
          have hD9 := hD.sub (ws' := [(h0, .inr (0, [.ref q1])), (q1, .inl (cZ, 64, .inl (aB (va_up T k true))))]) [0, 1] (by decide) rfl
          exact W.iret (v := nI k) hx hb hr (fun t ht hW => ⟨⟨nI k, va_up T k true, rfl, by rw [hf, lsF_at (by omega)]; simp [c_6, c_15], by rw [ht]; exact hP9, hD9⟩, hS.F ht⟩) hS.2.2 dX0_giveLeast_26
  exact loop_1 (64 + 1) 8 (by omega) (by omega) rfl _ _ hP hD hS ls (lv_sub hl [0, 1] rfl)

set_option maxHeartbeats 4000000 in
set_option maxRecDepth 100000 in
theorem kX1_beginStretch (l : Launch) (dd : va_G) (cI cZ cR cJ : ClassId) (h5 : Nat) (qw : Nat) (qk : Nat) (op : Bool) (ro : Bool) (st : Nat) (ct : Nat) (pl : Nat) (bl : Nat → Nat) (sn : Nat) (sz : Nat) : Met l yX1_beginStretch wsX1_beginStretch ({ frames := 0, cells := 0, slots := 0, locals := 0 }) (va_Pc [.ref h5, .int (nI sn)] (qm dd cI cZ cR cJ sz [(h5, .inr (1, [.ref qw, .ref qk, .int (bI op), .int (bI ro), .int (nI st), .int (nI ct), .int (nI pl)])), (qk, .inl (cI, 7, .inl (aN bl)))])) (va_Qv (fun u : Unit => True) (fun u t => qa dd (va_A [(h5, .inr (1, [.ref qw, .ref qk, .int (bI op), .int (bI ro), .int (nI st), .int (nI ct), .int (nI pl)])), (qk, .inl (cI, 7, .inl (aN bl)))] sz) [(h5, .inr (1, [.ref qw, .ref qk, .int (bI op), .int (bI ro), .int (nI sn), .int (nI 0), .int (nI 0)])), (qk, .inl (cI, 7, .inl (aN (va_cpy (fun _ => 0) bl 0 0 7))))] t) (va_A [(h5, .inr (1, [.ref qw, .ref qk, .int (bI op), .int (bI ro), .int (nI st), .int (nI ct), .int (nI pl)])), (qk, .inl (cI, 7, .inl (aN bl)))] sz)) 0 0 (va_A [(h5, .inr (1, [.ref qw, .ref qk, .int (bI op), .int (bI ro), .int (nI st), .int (nI ct), .int (nI pl)])), (qk, .inl (cI, 7, .inl (aN bl)))] sz) := by
  refine mk_mut (cc := cX1_beginStretch) (maxL := 3) (ret := none) (Qf := fun A => va_Qv (fun u : Unit => True) (fun u t => qa dd A [(h5, .inr (1, [.ref qw, .ref qk, .int (bI op), .int (bI ro), .int (nI sn), .int (nI 0), .int (nI 0)])), (qk, .inl (cI, 7, .inl (aN (va_cpy (fun _ => 0) bl 0 0 7))))] t) A) (by decide) rfl (Nat.le_of_ble_eq_true rfl) ?_
  intro p e s m below meth c A hx hb hr hts hown hlocks hml hin hP hD hA hS hK ls hl
  have hown : s.vm.findClass RX1 = some m.cls := hown
  have hl : lv_has ls 3 [(0, .ref h5), (1, .int (nI sn))] := hl
  have hf_18 := hts (.fieldLink RX1 18 "RecordSystem$Control" "stretch" "I") (by decide +kernel)
  have hin_X1 : ∀ w ∈ wsX10, w ∈ wsX1_beginStretch := by decide +kernel
  have hf_22 := hts (.fieldLink RX1 22 "RecordSystem$Control" "count" "I") (by decide +kernel)
  have hf_25 := hts (.fieldLink RX1 25 "RecordSystem$Control" "place" "I") (by decide +kernel)
  have hf_15 := hts (.fieldLink RX1 15 "RecordSystem$Control" "blocks" "[I") (by decide +kernel)
  refine lv_aload_n hx hb dX1_beginStretch_0 rfl (lv_at hl 0 rfl) ?_
  refine lv_iload_n hx hb dX1_beginStretch_1 rfl (lv_at hl 1 rfl) ?_
  refine va_put (D := dd) (ci := 1) (v := .int (nI sn)) (ty := .int) (C := RX1) (T := TX1) (N := 7) hx hb hts hin_X1 tyX1 tyX1_ok nmX1 hown hK.1 hP hD hS 0 rfl rfl 4 (by decide) hf_18 (fun _ h9 => h9) rfl (by decide +kernel) rfl rfl (Nat.le_of_ble_eq_true rfl) dX1_beginStretch_2 (fun H locs hP hD hS => ?_)
  have hP : va_P dd vwCl [(h5, .inr (1, [.ref qw, .ref qk, .int (bI op), .int (bI ro), .int (nI sn), .int (nI ct), .int (nI pl)])), (qk, .inl (cI, 7, .inl (aN bl)))] H := hP
  have hD : va_D A [(h5, .inr (1, [.ref qw, .ref qk, .int (bI op), .int (bI ro), .int (nI sn), .int (nI ct), .int (nI pl)])), (qk, .inl (cI, 7, .inl (aN bl)))] := hD
  refine lv_aload_n hx hb dX1_beginStretch_5 rfl (lv_at hl 0 rfl) ?_
  refine lv_iconst (v := nI 0) hx hb dX1_beginStretch_6 (by decide) ?_
  refine va_put (D := dd) (ci := 1) (v := .int (nI 0)) (ty := .int) (C := RX1) (T := TX1) (N := 7) hx hb hts hin_X1 tyX1 tyX1_ok nmX1 hown hK.1 hP hD hS 0 rfl rfl 5 (by decide) hf_22 (fun _ h9 => h9) rfl (by decide +kernel) rfl rfl (Nat.le_of_ble_eq_true rfl) dX1_beginStretch_7 (fun H locs hP hD hS => ?_)
  have hP : va_P dd vwCl [(h5, .inr (1, [.ref qw, .ref qk, .int (bI op), .int (bI ro), .int (nI sn), .int (nI 0), .int (nI pl)])), (qk, .inl (cI, 7, .inl (aN bl)))] H := hP
  have hD : va_D A [(h5, .inr (1, [.ref qw, .ref qk, .int (bI op), .int (bI ro), .int (nI sn), .int (nI 0), .int (nI pl)])), (qk, .inl (cI, 7, .inl (aN bl)))] := hD
  refine lv_aload_n hx hb dX1_beginStretch_10 rfl (lv_at hl 0 rfl) ?_
  refine lv_iconst (v := nI 0) hx hb dX1_beginStretch_11 (by decide) ?_
  refine va_put (D := dd) (ci := 1) (v := .int (nI 0)) (ty := .int) (C := RX1) (T := TX1) (N := 7) hx hb hts hin_X1 tyX1 tyX1_ok nmX1 hown hK.1 hP hD hS 0 rfl rfl 6 (by decide) hf_25 (fun _ h9 => h9) rfl (by decide +kernel) rfl rfl (Nat.le_of_ble_eq_true rfl) dX1_beginStretch_12 (fun H locs hP hD hS => ?_)
  have hP : va_P dd vwCl [(h5, .inr (1, [.ref qw, .ref qk, .int (bI op), .int (bI ro), .int (nI sn), .int (nI 0), .int (nI 0)])), (qk, .inl (cI, 7, .inl (aN bl)))] H := hP
  have hD : va_D A [(h5, .inr (1, [.ref qw, .ref qk, .int (bI op), .int (bI ro), .int (nI sn), .int (nI 0), .int (nI 0)])), (qk, .inl (cI, 7, .inl (aN bl)))] := hD
  refine lv_iconst (v := nI 0) hx hb dX1_beginStretch_15 (by decide) ?_
  refine lv_istore_n (lv' := [(2, .int (nI 0)), (0, .ref h5), (1, .int (nI sn))]) hx hb dX1_beginStretch_16 rfl hl (by decide) rfl (fun ls hl => ?_)
  have loop_1 : ∀ (n k : Nat), k ≤ 7 → 7 + 1 ≤ k + n → ∀ (H : Heap) (locs : List Loc), va_P dd vwCl [(h5, .inr (1, [.ref qw, .ref qk, .int (bI op), .int (bI ro), .int (nI sn), .int (nI 0), .int (nI 0)])), (qk, .inl (cI, 7, .inl (aN (va_cpy (fun _ => 0) bl 0 0 k))))] H → va_D A [(h5, .inr (1, [.ref qw, .ref qk, .int (bI op), .int (bI ro), .int (nI sn), .int (nI 0), .int (nI 0)])), (qk, .inl (cI, 7, .inl (aN (va_cpy (fun _ => 0) bl 0 0 k))))] → va_S A s.heap H locs → ∀ ls : Array Slot, lv_has ls 3 [(2, .int (nI k)), (0, .ref h5), (1, .int (nI sn))] → W p l e (({ frames := 0, cells := 0, slots := 0, locals := 0 } : Room)) s m ([.ref h5, .int (nI sn)] : List Value).toArray below meth c H locs 0 0 (MQ below (va_Qv (fun u : Unit => True) (fun u t => qa dd A [(h5, .inr (1, [.ref qw, .ref qk, .int (bI op), .int (bI ro), .int (nI sn), .int (nI 0), .int (nI 0)])), (qk, .inl (cI, 7, .inl (aN (va_cpy (fun _ => 0) bl 0 0 7))))] t) A) ([.ref h5, .int (nI sn)] : List Value).toArray s 0 0 A) (F0 m 17 ls []) := by
    intro n
    induction n with
    | zero => intro k h1 h2; exact absurd h2 (by omega)
    | succ n ih =>
      intro k hk_k hn_k H locs hP hD hS ls hl
      have ih_2 := ih
      refine lv_iload_n hx hb dX1_beginStretch_17 rfl (lv_at hl 0 rfl) ?_
      refine lv_bipush (v := nI 7) hx hb dX1_beginStretch_18 (by decide) ?_
      refine nr_ge (tgt := 36) hx hb (by omega) (by omega) dX1_beginStretch_20 (by decide) (fun c_20 => ?_) (fun c_20 => ?_)
      · have ek_k : k = 7 := by omega
        subst ek_k
        have hP9 := hP.sub (ws' := [(h5, .inr (1, [.ref qw, .ref qk, .int (bI op), .int (bI ro), .int (nI sn), .int (nI 0), .int (nI 0)])), (qk, .inl (cI, 7, .inl (aN (va_cpy (fun _ => 0) bl 0 0 7))))]) [0, 1] rfl
        have hD9 := hD.sub (ws' := [(h5, .inr (1, [.ref qw, .ref qk, .int (bI op), .int (bI ro), .int (nI sn), .int (nI 0), .int (nI 0)])), (qk, .inl (cI, 7, .inl (aN (va_cpy (fun _ => 0) bl 0 0 7))))]) [0, 1] (by decide) rfl
        exact W.vret hx hb hr (fun t ht hW => ⟨⟨(), rfl, trivial, by rw [ht]; exact hP9, hD9⟩, hS.F ht⟩) hS.2.2 dX1_beginStretch_36
      · refine lv_aload_n hx hb dX1_beginStretch_23 rfl (lv_at hl 1 rfl) ?_
        refine va_get (D := dd) (ci := 1) (v := .ref qk) (C := RX1) (T := TX1) (N := 7) hx hb hts hin_X1 hown hK.1 hP 0 rfl rfl 1 (by decide) hf_15 (fun _ h9 => h9) rfl dX1_beginStretch_24 ?_
        refine lv_iload_n hx hb dX1_beginStretch_27 rfl (lv_at hl 0 rfl) ?_
        refine lv_iconst (v := nI 0) hx hb dX1_beginStretch_28 (by decide) ?_
        refine nr_iast (f := va_cpy (fun _ => 0) bl 0 0 k) (v := 0) hx hb hK hP hD hS 1 rfl (by omega) (by decide) dX1_beginStretch_29 (fun H locs hP hD hS => ?_)
        have hP : va_P dd vwCl [(h5, .inr (1, [.ref qw, .ref qk, .int (bI op), .int (bI ro), .int (nI sn), .int (nI 0), .int (nI 0)])), (qk, .inl (cI, 7, .inl (aN (va_up (va_cpy (fun _ => 0) bl 0 0 k) k 0))))] H := hP
        have hD : va_D A [(h5, .inr (1, [.ref qw, .ref qk, .int (bI op), .int (bI ro), .int (nI sn), .int (nI 0), .int (nI 0)])), (qk, .inl (cI, 7, .inl (aN (va_up (va_cpy (fun _ => 0) bl 0 0 k) k 0))))] := hD
        have hu_3 : va_up (va_cpy (fun _ => 0) bl 0 0 k) k 0 = va_cpy (fun _ => 0) bl 0 0 (k + 1) := cpy_up (by omega) rfl
        rw [hu_3] at hP hD
        refine lv_iinc (v := nI (k + 1)) (lv' := [(2, .int (nI (k + 1))), (0, .ref h5), (1, .int (nI sn))]) hx hb dX1_beginStretch_30 hl (k := 0) rfl (nr_inc _ _ (by omega)) (by decide) rfl (fun ls hl => ?_)
        refine lv_goto (tgt := 17) hx hb dX1_beginStretch_33 (by decide) ?_
        exact ih_2 (k + 1) (by omega) (by omega) _ _ hP hD hS ls (lv_sub hl [0, 1, 2] rfl)
  exact loop_1 (7 + 1) 0 (by omega) (by omega) _ _ (by rw [cpy_0]; exact hP) (by rw [cpy_0]; exact hD) hS ls (lv_sub hl [0, 1, 2] rfl)
