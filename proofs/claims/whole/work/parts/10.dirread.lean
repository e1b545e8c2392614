set_option maxHeartbeats 4000000 in
set_option maxRecDepth 100000 in
theorem kX2_byteAt (l : Launch) (dd : va_G) (cI cZ cR cJ : ClassId) (h0 : Nat) (q1 : Nat) (qd : Nat) (qt : Nat) (U : Nat) (q4 : Nat) (le : Bool) (wl : Nat) (wd : Int32) (D : Nat → Nat) (en : Nat) (i : Nat) (he : en < 32) (hi : i < 16) : Met l yX2_byteAt wsX2_byteAt ({ frames := 0, cells := 0, slots := 0, locals := 0 }) (va_Pc [.ref h0, .int (nI en), .int (nI i)] (qc dd cI cZ cR cJ [(h0, .inr (2, [.ref q1, .ref qd, .ref qt, .int (nI U)])), (q1, .inr (3, [.ref q4, .int (bI le), .int (nI wl), .int wd])), (q4, .inl (cI, 4096, .inl (aN D)))])) (QcRead (nI (D (16 * en + i)))) 0 0 (fun _ => False) := by
  refine mk_met (cc := cX2_byteAt) (maxL := 3) (ret := (some .int)) (by decide) rfl (Nat.le_of_ble_eq_true rfl) ?_
  intro p e s m below meth c hx hb hr hts hown hlocks hml hin hv ls hl
  obtain ⟨hP, hK⟩ := hv
  have hown : s.vm.findClass RX2 = some m.cls := hown
  have hl : lv_has ls 3 [(0, .ref h0), (1, .int (nI en)), (2, .int (nI i))] := hl
  have hf_18 := hts (.fieldLink RX2 18 "RecordSystem$Directory" "store" "LRecordSystem$Disk;") (by decide +kernel)
  have hin_X2 : ∀ w ∈ wsX20, w ∈ wsX2_byteAt := by decide +kernel
  have hin_X3 : ∀ w ∈ wsX30, w ∈ wsX2_byteAt := by decide +kernel
  refine lv_aload_n hx hb dX2_byteAt_0 rfl (lv_at hl 0 rfl) ?_
  refine va_get (D := dd) (ci := 2) (v := .ref q1) (C := RX2) (T := TX2) (N := 4) hx hb hts hin_X2 hown hK.1 hP 0 rfl rfl 0 (by decide) hf_18 (fun _ h9 => h9) rfl dX2_byteAt_1 ?_
  refine va_getN (D := dd) (ci := 3) (v := .ref q4) (C := RX3) (T := TX3) (N := 4) hx hb hts hin_X3 hown hK.1 hP 1 rfl rfl 0 (by decide) (hK.2.use 1 rfl) (fun _ h9 => h9) rfl dX2_byteAt_4 ?_
  refine lv_iload_n hx hb dX2_byteAt_7 rfl (lv_at hl 1 rfl) ?_
  refine lv_bipush (v := nI 16) hx hb dX2_byteAt_8 (by decide) ?_
  refine nr_imul (16 * en) (by omega) hx hb dX2_byteAt_10 ?_
  refine lv_iload_n hx hb dX2_byteAt_11 rfl (lv_at hl 2 rfl) ?_
  refine nr_iadd (16 * en + i) (by omega) hx hb dX2_byteAt_12 ?_
  refine nr_iald (f := D) hx hb hK hP 2 rfl (by omega) (by decide) dX2_byteAt_13 ?_
  have hR : nI (D (16 * en + i)) = nI (D (16 * en + i)) := rfl
  exact W.iret (v := nI (D (16 * en + i))) hx hb hr (fun t ht hW => ⟨congrArg (fun z => Outcome.returned (some (Value.int z))) hR, ht⟩) (fun q h => nomatch h) dX2_byteAt_14

set_option maxHeartbeats 4000000 in
set_option maxRecDepth 100000 in
theorem kX2_blockNumber (l : Launch) (dd : va_G) (cI cZ cR cJ : ClassId) (h0 : Nat) (q1 : Nat) (qd : Nat) (qt : Nat) (U : Nat) (q4 : Nat) (le : Bool) (wl : Nat) (wd : Int32) (D : Nat → Nat) (en : Nat) (k : Nat) (he : en < 32) (hk : k < 7) : Met l yX2_blockNumber wsX2_blockNumber ({ frames := 1, cells := 0, slots := 0, locals := 22 }) (va_Pc [.ref h0, .int (nI en), .int (nI k)] (qc dd cI cZ cR cJ [(h0, .inr (2, [.ref q1, .ref qd, .ref qt, .int (nI U)])), (q1, .inr (3, [.ref q4, .int (bI le), .int (nI wl), .int wd])), (q4, .inl (cI, 4096, .inl (aN D)))])) (QcRead (nI (D (16 * en + k + 9)))) 0 0 (fun _ => False) := by
  refine mk_met (cc := cX2_blockNumber) (maxL := 3) (ret := (some .int)) (by decide) rfl (Nat.le_of_ble_eq_true rfl) ?_
  intro p e s m below meth c hx hb hr hts hown hlocks hml hin hv ls hl
  obtain ⟨hP, hK⟩ := hv
  have hown : s.vm.findClass RX2 = some m.cls := hown
  have hl : lv_has ls 3 [(0, .ref h0), (1, .int (nI en)), (2, .int (nI k))] := hl
  refine lv_aload_n hx hb dX2_blockNumber_0 rfl (lv_at hl 0 rfl) ?_
  refine lv_iload_n hx hb dX2_blockNumber_1 rfl (lv_at hl 1 rfl) ?_
  refine lv_bipush (v := nI 9) hx hb dX2_blockNumber_2 (by decide) ?_
  refine lv_iload_n hx hb dX2_blockNumber_4 rfl (lv_at hl 2 rfl) ?_
  refine nr_iadd (k + 9) (by omega) hx hb dX2_blockNumber_5 ?_
  refine cr_i (va_runV (As := [.int (nI en), .int (nI (k + 9))]) (rest := []) ⟨hx, hb, hml, hown, hts⟩ (kX2_byteAt l dd cI cZ cR cJ h0 q1 qd qt U q4 le wl wd D en (k + 9) (by omega) (by omega)) (cwV 2 hts gX2_blockNumber_X2_byteAt rfl rfl rfl (by decide +kernel) ⟨Nat.le_of_ble_eq_true rfl, Nat.le_of_ble_eq_true rfl⟩) (pv_c hK hP 0 rfl (ci := 2) rfl [0, 1, 2] rfl) rfl rfl hl.1 rfl (lv_room (Nat.le_of_ble_eq_true rfl)) dX2_blockNumber_6 ⟨Nat.zero_le _, Nat.zero_le _⟩) ?_
  refine nr_top (b := D (16 * en + k + 9)) (congrArg D (by omega)) ?_
  have hR : nI (D (16 * en + k + 9)) = nI (D (16 * en + k + 9)) := rfl
  exact W.iret (v := nI (D (16 * en + k + 9))) hx hb hr (fun t ht hW => ⟨congrArg (fun z => Outcome.returned (some (Value.int z))) hR, ht⟩) (fun q h => nomatch h) dX2_blockNumber_9

set_option maxHeartbeats 4000000 in
set_option maxRecDepth 100000 in
theorem kX2_isFree (l : Launch) (dd : va_G) (cI cZ cR cJ : ClassId) (h0 : Nat) (q1 : Nat) (qd : Nat) (qt : Nat) (U : Nat) (q4 : Nat) (le : Bool) (wl : Nat) (wd : Int32) (D : Nat → Nat) (en : Nat) (he : en < 32) (hDb : ∀ j, D j < 256) : Met l yX2_isFree wsX2_isFree ({ frames := 1, cells := 0, slots := 0, locals := 22 }) (va_Pc [.ref h0, .int (nI en)] (qc dd cI cZ cR cJ [(h0, .inr (2, [.ref q1, .ref qd, .ref qt, .int (nI U)])), (q1, .inr (3, [.ref q4, .int (bI le), .int (nI wl), .int wd])), (q4, .inl (cI, 4096, .inl (aN D)))])) (QcRead (bI (frB D en))) 0 0 (fun _ => False) := by
  refine mk_met (cc := cX2_isFree) (maxL := 2) (ret := (some .boolean)) (by decide) rfl (Nat.le_of_ble_eq_true rfl) ?_
  intro p e s m below meth c hx hb hr hts hown hlocks hml hin hv ls hl
  obtain ⟨hP, hK⟩ := hv
  have hown : s.vm.findClass RX2 = some m.cls := hown
  have hl : lv_has ls 2 [(0, .ref h0), (1, .int (nI en))] := hl
  refine lv_aload_n hx hb dX2_isFree_0 rfl (lv_at hl 0 rfl) ?_
  refine lv_iload_n hx hb dX2_isFree_1 rfl (lv_at hl 1 rfl) ?_
  refine lv_iconst (v := nI 0) hx hb dX2_isFree_2 (by decide) ?_
  refine cr_i (va_runV (As := [.int (nI en), .int (nI 0)]) (rest := []) ⟨hx, hb, hml, hown, hts⟩ (kX2_byteAt l dd cI cZ cR cJ h0 q1 qd qt U q4 le wl wd D en 0 (by omega) (by omega)) (cwV 2 hts gX2_isFree_X2_byteAt rfl rfl rfl (by decide +kernel) ⟨Nat.le_of_ble_eq_true rfl, Nat.le_of_ble_eq_true rfl⟩) (pv_c hK hP 0 rfl (ci := 2) rfl [0, 1, 2] rfl) rfl rfl hl.1 rfl (lv_room (Nat.le_of_ble_eq_true rfl)) dX2_isFree_3 ⟨Nat.zero_le _, Nat.zero_le _⟩) ?_
  refine nr_top (b := D (16 * en)) (congrArg D (by omega)) ?_
  have hv := hDb (16 * en)
  refine lv_bipush (v := nI 16) hx hb dX2_isFree_6 (by decide) ?_
  refine nr_lt (tgt := 15) hx hb (by omega) (by omega) dX2_isFree_8 (by decide) (fun c_8 => ?_) (fun c_8 => ?_)
  · refine lv_iconst (v := nI 0) hx hb dX2_isFree_15 (by decide) ?_
    have hR : nI 0 = bI (frB D en) := bI_zero (by simp [frB]; omega)
    exact W.zret (v := nI 0) hx hb hr (by decide) (fun t ht hW => ⟨congrArg (fun z => Outcome.returned (some (Value.int z))) hR, ht⟩) (fun q h => nomatch h) dX2_isFree_16
  · refine lv_iconst (v := nI 1) hx hb dX2_isFree_11 (by decide) ?_
    refine lv_goto (tgt := 16) hx hb dX2_isFree_12 (by decide) ?_
    have hR : nI 1 = bI (frB D en) := bI_one (by simp [frB]; omega)
    exact W.zret (v := nI 1) hx hb hr (by decide) (fun t ht hW => ⟨congrArg (fun z => Outcome.returned (some (Value.int z))) hR, ht⟩) (fun q h => nomatch h) dX2_isFree_16

set_option maxHeartbeats 4000000 in
set_option maxRecDepth 100000 in
theorem kX2_isReadOnly (l : Launch) (dd : va_G) (cI cZ cR cJ : ClassId) (h0 : Nat) (q1 : Nat) (qd : Nat) (qt : Nat) (U : Nat) (q4 : Nat) (le : Bool) (wl : Nat) (wd : Int32) (D : Nat → Nat) (en : Nat) (he : en < 32) (hDb : ∀ j, D j < 256) : Met l yX2_isReadOnly wsX2_isReadOnly ({ frames := 1, cells := 0, slots := 0, locals := 22 }) (va_Pc [.ref h0, .int (nI en)] (qc dd cI cZ cR cJ [(h0, .inr (2, [.ref q1, .ref qd, .ref qt, .int (nI U)])), (q1, .inr (3, [.ref q4, .int (bI le), .int (nI wl), .int wd])), (q4, .inl (cI, 4096, .inl (aN D)))])) (QcRead (bI (roB D en))) 0 0 (fun _ => False) := by
  refine mk_met (cc := cX2_isReadOnly) (maxL := 2) (ret := (some .boolean)) (by decide) rfl (Nat.le_of_ble_eq_true rfl) ?_
  intro p e s m below meth c hx hb hr hts hown hlocks hml hin hv ls hl
  obtain ⟨hP, hK⟩ := hv
  have hown : s.vm.findClass RX2 = some m.cls := hown
  have hl : lv_has ls 2 [(0, .ref h0), (1, .int (nI en))] := hl
  refine lv_aload_n hx hb dX2_isReadOnly_0 rfl (lv_at hl 0 rfl) ?_
  refine lv_iload_n hx hb dX2_isReadOnly_1 rfl (lv_at hl 1 rfl) ?_
  refine lv_iconst (v := nI 5) hx hb dX2_isReadOnly_2 (by decide) ?_
  refine cr_i (va_runV (As := [.int (nI en), .int (nI 5)]) (rest := []) ⟨hx, hb, hml, hown, hts⟩ (kX2_byteAt l dd cI cZ cR cJ h0 q1 qd qt U q4 le wl wd D en 5 (by omega) (by omega)) (cwV 2 hts gX2_isReadOnly_X2_byteAt rfl rfl rfl (by decide +kernel) ⟨Nat.le_of_ble_eq_true rfl, Nat.le_of_ble_eq_true rfl⟩) (pv_c hK hP 0 rfl (ci := 2) rfl [0, 1, 2] rfl) rfl rfl hl.1 rfl (lv_room (Nat.le_of_ble_eq_true rfl)) dX2_isReadOnly_3 ⟨Nat.zero_le _, Nat.zero_le _⟩) ?_
  have hv := hDb (16 * en + 5)
  refine lv_sipush (v := nI 128) hx hb dX2_isReadOnly_6 (by decide) ?_
  refine nr_iand128 (((D (16 * en + 5)) / 128 * 128)) (by omega) hx hb (by omega) dX2_isReadOnly_9 ?_
  refine nr_if_eq (tgt := 17) hx hb (by omega) dX2_isReadOnly_10 (by decide) (fun c_10 => ?_) (fun c_10 => ?_)
  · refine lv_iconst (v := nI 0) hx hb dX2_isReadOnly_17 (by decide) ?_
    have hR : nI 0 = bI (roB D en) := bI_zero (by simp [roB]; omega)
    exact W.zret (v := nI 0) hx hb hr (by decide) (fun t ht hW => ⟨congrArg (fun z => Outcome.returned (some (Value.int z))) hR, ht⟩) (fun q h => nomatch h) dX2_isReadOnly_18
  · refine lv_iconst (v := nI 1) hx hb dX2_isReadOnly_13 (by decide) ?_
    refine lv_goto (tgt := 18) hx hb dX2_isReadOnly_14 (by decide) ?_
    have hR : nI 1 = bI (roB D en) := bI_one (by simp [roB]; omega)
    exact W.zret (v := nI 1) hx hb hr (by decide) (fun t ht hW => ⟨congrArg (fun z => Outcome.returned (some (Value.int z))) hR, ht⟩) (fun q h => nomatch h) dX2_isReadOnly_18

set_option maxHeartbeats 4000000 in
set_option maxRecDepth 100000 in
theorem kX2_fits (l : Launch) (dd : va_G) (cI cZ cR cJ : ClassId) (h0 : Nat) (q1 : Nat) (qd : Nat) (qt : Nat) (U : Nat) (q4 : Nat) (le : Bool) (wl : Nat) (wd : Int32) (D : Nat → Nat) (h5 : Nat) (qw : Nat) (qk : Nat) (op : Bool) (ro : Bool) (st : Nat) (ct : Nat) (pl : Nat) (w : Nat → Nat) (en : Nat) (he : en < 32) (hDb : ∀ j, D j < 256) (hwb : ∀ j, w j < 128) (hUb : U < 16) : Met l yX2_fits wsX2_fits ({ frames := 1, cells := 0, slots := 0, locals := 22 }) (va_Pc [.ref h0, .int (nI en), .ref h5] (qc dd cI cZ cR cJ [(h0, .inr (2, [.ref q1, .ref qd, .ref qt, .int (nI U)])), (q1, .inr (3, [.ref q4, .int (bI le), .int (nI wl), .int wd])), (q4, .inl (cI, 4096, .inl (aN D))), (h5, .inr (1, [.ref qw, .ref qk, .int (bI op), .int (bI ro), .int (nI st), .int (nI ct), .int (nI pl)])), (qw, .inl (cI, 6, .inl (aN w)))])) (QcRead (bI (ftB D U w en))) 0 0 (fun _ => False) := by
  refine mk_met (cc := cX2_fits) (maxL := 5) (ret := (some .boolean)) (by decide) rfl (Nat.le_of_ble_eq_true rfl) ?_
  intro p e s m below meth c hx hb hr hts hown hlocks hml hin hv ls hl
  obtain ⟨hP, hK⟩ := hv
  have hown : s.vm.findClass RX2 = some m.cls := hown
  have hl : lv_has ls 5 [(0, .ref h0), (1, .int (nI en)), (2, .ref h5)] := hl
  have hf_31 := hts (.fieldLink RX2 31 "RecordSystem$Directory" "user" "I") (by decide +kernel)
  have hin_X2 : ∀ w ∈ wsX20, w ∈ wsX2_fits := by decide +kernel
  have hin_X1 : ∀ w ∈ wsX10, w ∈ wsX2_fits := by decide +kernel
  refine lv_aload_n hx hb dX2_fits_0 rfl (lv_at hl 0 rfl) ?_
  refine lv_iload_n hx hb dX2_fits_1 rfl (lv_at hl 1 rfl) ?_
  refine lv_iconst (v := nI 0) hx hb dX2_fits_2 (by decide) ?_
  refine cr_i (va_runV (As := [.int (nI en), .int (nI 0)]) (rest := []) ⟨hx, hb, hml, hown, hts⟩ (kX2_byteAt l dd cI cZ cR cJ h0 q1 qd qt U q4 le wl wd D en 0 (by omega) (by omega)) (cwV 2 hts gX2_fits_X2_byteAt rfl rfl rfl (by decide +kernel) ⟨Nat.le_of_ble_eq_true rfl, Nat.le_of_ble_eq_true rfl⟩) (pv_c hK hP 0 rfl (ci := 2) rfl [0, 1, 2] rfl) rfl rfl hl.1 rfl (lv_room (Nat.le_of_ble_eq_true rfl)) dX2_fits_3 ⟨Nat.zero_le _, Nat.zero_le _⟩) ?_
  refine nr_top (b := D (16 * en)) (congrArg D (by omega)) ?_
  have hv := hDb (16 * en)
  refine lv_aload_n hx hb dX2_fits_6 rfl (lv_at hl 0 rfl) ?_
  refine va_get (D := dd) (ci := 2) (v := .int (nI U)) (C := RX2) (T := TX2) (N := 4) hx hb hts hin_X2 hown hK.1 hP 0 rfl rfl 3 (by decide) hf_31 (fun _ h9 => h9) rfl dX2_fits_7 ?_
  refine nr_eq (tgt := 15) hx hb (by omega) (by omega) dX2_fits_10 (by decide) (fun c_10 => ?_) (fun c_10 => ?_)
  · refine lv_iconst (v := nI 0) hx hb dX2_fits_15 (by decide) ?_
    refine lv_istore_n (lv' := [(3, .int (nI 0)), (0, .ref h0), (1, .int (nI en)), (2, .ref h5)]) hx hb dX2_fits_16 rfl hl (by decide) rfl (fun ls hl => ?_)
    have loop_1 : ∀ (n k : Nat), k ≤ 6 → 6 + 1 ≤ k + n → (D (16 * en) = U ∧ ftA D w en k = true) → ∀ ls : Array Slot, lv_has ls 5 [(3, .int (nI k)), (0, .ref h0), (1, .int (nI en)), (2, .ref h5)] → W p l e (({ frames := 1, cells := 0, slots := 0, locals := 22 } : Room)) s m ([.ref h0, .int (nI en), .ref h5] : List Value).toArray below meth c s.heap [] 0 0 (MQ below (QcRead (bI (ftB D U w en))) ([.ref h0, .int (nI en), .ref h5] : List Value).toArray s 0 0 (fun _ => False)) (F0 m 17 ls []) := by
      intro n
      induction n with
      | zero => intro k h1 h2; exact absurd h2 (by omega)
      | succ n ih =>
        intro k hk_k hn_k hft ls hl
        have ih_2 := ih
        refine lv_iload_n hx hb dX2_fits_17 rfl (lv_at hl 0 rfl) ?_
        refine lv_bipush (v := nI 6) hx hb dX2_fits_18 (by decide) ?_
        refine nr_ge (tgt := 66) hx hb (by omega) (by omega) dX2_fits_20 (by decide) (fun c_20 => ?_) (fun c_20 => ?_)
        · have ek_k : k = 6 := by omega
          subst ek_k
          refine lv_iconst (v := nI 1) hx hb dX2_fits_66 (by decide) ?_
          have hR : nI 1 = bI (ftB D U w en) := bI_one (by simp [ftB, hft.1, hft.2])
          exact W.zret (v := nI 1) hx hb hr (by decide) (fun t ht hW => ⟨congrArg (fun z => Outcome.returned (some (Value.int z))) hR, ht⟩) (fun q h => nomatch h) dX2_fits_67
        · refine lv_aload_n hx hb dX2_fits_23 rfl (lv_at hl 1 rfl) ?_
          refine lv_iload_n hx hb dX2_fits_24 rfl (lv_at hl 2 rfl) ?_
          refine lv_iconst (v := nI 1) hx hb dX2_fits_25 (by decide) ?_
          refine lv_iload_n hx hb dX2_fits_26 rfl (lv_at hl 0 rfl) ?_
          refine nr_iadd (k + 1) (by omega) hx hb dX2_fits_27 ?_
          refine cr_i (va_runV (As := [.int (nI en), .int (nI (k + 1))]) (rest := []) ⟨hx, hb, hml, hown, hts⟩ (kX2_byteAt l dd cI cZ cR cJ h0 q1 qd qt U q4 le wl wd D en (k + 1) (by omega) (by omega)) (cwV 2 hts gX2_fits_X2_byteAt rfl rfl rfl (by decide +kernel) ⟨Nat.le_of_ble_eq_true rfl, Nat.le_of_ble_eq_true rfl⟩) (pv_c hK hP 0 rfl (ci := 2) rfl [0, 1, 2] rfl) rfl rfl hl.1 rfl (lv_room (Nat.le_of_ble_eq_true rfl)) dX2_fits_28 ⟨Nat.zero_le _, Nat.zero_le _⟩) ?_
          refine nr_top (b := D (16 * en + k + 1)) (congrArg D (by omega)) ?_
          have hv := hDb (16 * en + k + 1)
          refine lv_bipush (v := nI 127) hx hb dX2_fits_31 (by decide) ?_
          refine nr_iand127 (((D (16 * en + k + 1)) % 128)) (by omega) hx hb (by omega) dX2_fits_33 ?_
          refine lv_istore (lv' := [(4, .int (nI (((D (16 * en + k + 1)) % 128)))), (3, .int (nI k)), (0, .ref h0), (1, .int (nI en)), (2, .ref h5)]) hx hb dX2_fits_34 hl (by decide) rfl (fun ls hl => ?_)
          refine lv_aload_n hx hb dX2_fits_36 rfl (lv_at hl 4 rfl) ?_
          refine va_getN (D := dd) (ci := 1) (v := .ref qw) (C := RX1) (T := TX1) (N := 7) hx hb hts hin_X1 hown hK.1 hP 3 rfl rfl 0 (by decide) (hK.2.use 9 rfl) (fun _ h9 => h9) rfl dX2_fits_37 ?_
          refine lv_iload_n hx hb dX2_fits_40 rfl (lv_at hl 1 rfl) ?_
          refine nr_iald (f := w) hx hb hK hP 4 rfl (by omega) (by decide) dX2_fits_41 ?_
          have hv_3 := hwb k
          refine lv_bipush (v := nI 63) hx hb dX2_fits_42 (by decide) ?_
          refine nr_eq (tgt := 60) hx hb (by omega) (by omega) dX2_fits_44 (by decide) (fun c_44 => ?_) (fun c_44 => ?_)
          · refine lv_iinc (v := nI (k + 1)) (lv' := [(3, .int (nI (k + 1))), (4, .int (nI (((D (16 * en + k + 1)) % 128)))), (0, .ref h0), (1, .int (nI en)), (2, .ref h5)]) hx hb dX2_fits_60 hl (k := 1) rfl (nr_inc _ _ (by omega)) (by decide) rfl (fun ls hl => ?_)
            refine lv_goto (tgt := 17) hx hb dX2_fits_63 (by decide) ?_
            exact ih_2 (k + 1) (by omega) (by omega) ⟨hft.1, by simp [ftA, hft.2, ltB]; omega⟩ ls (lv_sub hl [0, 2, 3, 4] rfl)
          · refine lv_aload_n hx hb dX2_fits_47 rfl (lv_at hl 4 rfl) ?_
            refine va_getN (D := dd) (ci := 1) (v := .ref qw) (C := RX1) (T := TX1) (N := 7) hx hb hts hin_X1 hown hK.1 hP 3 rfl rfl 0 (by decide) (hK.2.use 9 rfl) (fun _ h9 => h9) rfl dX2_fits_48 ?_
            refine lv_iload_n hx hb dX2_fits_51 rfl (lv_at hl 1 rfl) ?_
            refine nr_iald (f := w) hx hb hK hP 4 rfl (by omega) (by decide) dX2_fits_52 ?_
            have hv_4 := hwb k
            refine lv_iload hx hb dX2_fits_53 (lv_at hl 0 rfl) ?_
            refine nr_eq (tgt := 60) hx hb (by omega) (by omega) dX2_fits_55 (by decide) (fun c_55 => ?_) (fun c_55 => ?_)
            · refine lv_iinc (v := nI (k + 1)) (lv' := [(3, .int (nI (k + 1))), (4, .int (nI (((D (16 * en + k + 1)) % 128)))), (0, .ref h0), (1, .int (nI en)), (2, .ref h5)]) hx hb dX2_fits_60 hl (k := 1) rfl (nr_inc _ _ (by omega)) (by decide) rfl (fun ls hl => ?_)
              refine lv_goto (tgt := 17) hx hb dX2_fits_63 (by decide) ?_
              exact ih_2 (k + 1) (by omega) (by omega) ⟨hft.1, by simp [ftA, hft.2, ltB]; omega⟩ ls (lv_sub hl [0, 2, 3, 4] rfl)
            · refine lv_iconst (v := nI 0) hx hb dX2_fits_58 (by decide) ?_
              have hR : nI 0 = bI (ftB D U w en) := bI_zero (by simp [ftB, ftA_no (D := D) (w := w) (e := en) (k := k) (by simp [ltB]; omega) 6 (by omega)])
              exact W.zret (v := nI 0) hx hb hr (by decide) (fun t ht hW => ⟨congrArg (fun z => Outcome.returned (some (Value.int z))) hR, ht⟩) (fun q h => nomatch h) dX2_fits_59
    exact loop_1 (6 + 1) 0 (by omega) (by omega) ⟨by omega, rfl⟩ ls (lv_sub hl [0, 1, 2, 3] rfl)
  · refine lv_iconst (v := nI 0) hx hb dX2_fits_13 (by decide) ?_
    have hR : nI 0 = bI (ftB D U w en) := bI_zero (by simp [ftB]; omega)
    exact W.zret (v := nI 0) hx hb hr (by decide) (fun t ht hW => ⟨congrArg (fun z => Outcome.returned (some (Value.int z))) hR, ht⟩) (fun q h => nomatch h) dX2_fits_14

set_option maxHeartbeats 4000000 in
set_option maxRecDepth 100000 in
theorem kX2_firstFrom (l : Launch) (dd : va_G) (cI cZ cR cJ : ClassId) (h0 : Nat) (q1 : Nat) (qd : Nat) (qt : Nat) (U : Nat) (q4 : Nat) (le : Bool) (wl : Nat) (wd : Int32) (D : Nat → Nat) (h5 : Nat) (qw : Nat) (qk : Nat) (op : Bool) (ro : Bool) (st : Nat) (ct : Nat) (pl : Nat) (w : Nat → Nat) (fr : Nat) (hfr : fr < 32) (hDb : ∀ j, D j < 256) (hwb : ∀ j, w j < 128) (hUb : U < 16) : Met l yX2_firstFrom wsX2_firstFrom ({ frames := 2, cells := 0, slots := 0, locals := 46 }) (va_Pc [.ref h0, .ref h5, .int (nI fr)] (qc dd cI cZ cR cJ [(h0, .inr (2, [.ref q1, .ref qd, .ref qt, .int (nI U)])), (q1, .inr (3, [.ref q4, .int (bI le), .int (nI wl), .int wd])), (q4, .inl (cI, 4096, .inl (aN D))), (h5, .inr (1, [.ref qw, .ref qk, .int (bI op), .int (bI ro), .int (nI st), .int (nI ct), .int (nI pl)])), (qw, .inl (cI, 6, .inl (aN w)))])) (QcRead (fnd (ftB D U w) (32 - fr) fr)) 0 0 (fun _ => False) := by
  refine mk_met (cc := cX2_firstFrom) (maxL := 4) (ret := (some .int)) (by decide) rfl (Nat.le_of_ble_eq_true rfl) ?_
  intro p e s m below meth c hx hb hr hts hown hlocks hml hin hv ls hl
  obtain ⟨hP, hK⟩ := hv
  have hown : s.vm.findClass RX2 = some m.cls := hown
  have hl : lv_has ls 4 [(0, .ref h0), (1, .ref h5), (2, .int (nI fr))] := hl
  refine lv_iload_n hx hb dX2_firstFrom_0 rfl (lv_at hl 2 rfl) ?_
  refine lv_istore_n (lv' := [(3, .int (nI fr)), (0, .ref h0), (1, .ref h5), (2, .int (nI fr))]) hx hb dX2_firstFrom_1 rfl hl (by decide) rfl (fun ls hl => ?_)
  have loop_1 : ∀ (n k : Nat), k ≤ 32 → 32 + 1 ≤ k + n → (fnd (ftB D U w) (32 - fr) fr = fnd (ftB D U w) (32 - k) k) → ∀ ls : Array Slot, lv_has ls 4 [(3, .int (nI k)), (0, .ref h0), (1, .ref h5), (2, .int (nI fr))] → W p l e (({ frames := 2, cells := 0, slots := 0, locals := 46 } : Room)) s m ([.ref h0, .ref h5, .int (nI fr)] : List Value).toArray below meth c s.heap [] 0 0 (MQ below (QcRead (fnd (ftB D U w) (32 - fr) fr)) ([.ref h0, .ref h5, .int (nI fr)] : List Value).toArray s 0 0 (fun _ => False)) (F0 m 2 ls []) := by
    intro n
    induction n with
    | zero => intro k h1 h2; exact absurd h2 (by omega)
    | succ n ih =>
      intro k hk_k hn_k hf ls hl
      have ih_2 := ih
      refine lv_iload_n hx hb dX2_firstFrom_2 rfl (lv_at hl 0 rfl) ?_
      refine lv_bipush (v := nI 32) hx hb dX2_firstFrom_3 (by decide) ?_
      refine nr_ge (tgt := 25) hx hb (by omega) (by omega) dX2_firstFrom_5 (by decide) (fun c_5 => ?_) (fun c_5 => ?_)
      · have ek_k : k = 32 := by omega
        subst ek_k
        refine lv_iconst (v := -1) hx hb dX2_firstFrom_25 (by decide) ?_
        have hR : (-1 : Int32) = fnd (ftB D U w) (32 - fr) fr := by rw [hf]; exact (fnd_end 32).symm
        exact W.iret (v := (-1 : Int32)) hx hb hr (fun t ht hW => ⟨congrArg (fun z => Outcome.returned (some (Value.int z))) hR, ht⟩) (fun q h => nomatch h) dX2_firstFrom_26
      · refine lv_aload_n hx hb dX2_firstFrom_8 rfl (lv_at hl 1 rfl) ?_
        refine lv_iload_n hx hb dX2_firstFrom_9 rfl (lv_at hl 0 rfl) ?_
        refine lv_aload_n hx hb dX2_firstFrom_10 rfl (lv_at hl 2 rfl) ?_
        refine cr_i (va_runV (As := [.int (nI k), .ref h5]) (rest := []) ⟨hx, hb, hml, hown, hts⟩ (kX2_fits l dd cI cZ cR cJ h0 q1 qd qt U q4 le wl wd D h5 qw qk op ro st ct pl w k (by omega) hDb hwb (by omega)) (cwV 2 hts gX2_firstFrom_X2_fits rfl rfl rfl (by decide +kernel) ⟨Nat.le_of_ble_eq_true rfl, Nat.le_of_ble_eq_true rfl⟩) (pv_c hK hP 0 rfl (ci := 2) rfl [0, 1, 2, 3, 4] rfl) rfl rfl hl.1 rfl (lv_room (Nat.le_of_ble_eq_true rfl)) dX2_firstFrom_11 ⟨Nat.zero_le _, Nat.zero_le _⟩) ?_
        refine br_if_eq (tgt := 19) hx hb dX2_firstFrom_14 (by decide) (fun c_14 => ?_) (fun c_14 => ?_)
        · refine lv_iinc (v := nI (k + 1)) (lv' := [(3, .int (nI (k + 1))), (0, .ref h0), (1, .ref h5), (2, .int (nI fr))]) hx hb dX2_firstFrom_19 hl (k := 0) rfl (nr_inc _ _ (by omega)) (by decide) rfl (fun ls hl => ?_)
          refine lv_goto (tgt := 2) hx hb dX2_firstFrom_22 (by decide) ?_
          exact ih_2 (k + 1) (by omega) (by omega) (by rw [hf, fnd_at (by omega)]; simp [c_5, c_14]) ls (lv_sub hl [0, 1, 2, 3] rfl)
        · refine lv_iload_n hx hb dX2_firstFrom_17 rfl (lv_at hl 0 rfl) ?_
          have hR : nI k = fnd (ftB D U w) (32 - fr) fr := by rw [hf, fnd_at (by omega)]; simp [c_5, c_14]
          exact W.iret (v := nI k) hx hb hr (fun t ht hW => ⟨congrArg (fun z => Outcome.returned (some (Value.int z))) hR, ht⟩) (fun q h => nomatch h) dX2_firstFrom_18
  exact loop_1 (32 + 1) fr (by omega) (by omega) rfl ls (lv_sub hl [0, 1, 2, 3] rfl)

set_option maxHeartbeats 4000000 in
set_option maxRecDepth 100000 in
theorem kX2_firstOfStretch (l : Launch) (dd : va_G) (cI cZ cR cJ : ClassId) (h0 : Nat) (q1 : Nat) (qd : Nat) (qt : Nat) (U : Nat) (q4 : Nat) (le : Bool) (wl : Nat) (wd : Int32) (D : Nat → Nat) (h5 : Nat) (qw : Nat) (qk : Nat) (op : Bool) (ro : Bool) (st : Nat) (ct : Nat) (pl : Nat) (w : Nat → Nat) (sn : Nat) (hsn : sn < 1000) (hDb : ∀ j, D j < 256) (hwb : ∀ j, w j < 128) (hUb : U < 16) : Met l yX2_firstOfStretch wsX2_firstOfStretch ({ frames := 2, cells := 0, slots := 0, locals := 46 }) (va_Pc [.ref h0, .ref h5, .int (nI sn)] (qc dd cI cZ cR cJ [(h0, .inr (2, [.ref q1, .ref qd, .ref qt, .int (nI U)])), (q1, .inr (3, [.ref q4, .int (bI le), .int (nI wl), .int wd])), (q4, .inl (cI, 4096, .inl (aN D))), (h5, .inr (1, [.ref qw, .ref qk, .int (bI op), .int (bI ro), .int (nI st), .int (nI ct), .int (nI pl)])), (qw, .inl (cI, 6, .inl (aN w)))])) (QcRead (fnd (fsB D U w sn) 32 0)) 0 0 (fun _ => False) := by
  refine mk_met (cc := cX2_firstOfStretch) (maxL := 4) (ret := (some .int)) (by decide) rfl (Nat.le_of_ble_eq_true rfl) ?_
  intro p e s m below meth c hx hb hr hts hown hlocks hml hin hv ls hl
  obtain ⟨hP, hK⟩ := hv
  have hown : s.vm.findClass RX2 = some m.cls := hown
  have hl : lv_has ls 4 [(0, .ref h0), (1, .ref h5), (2, .int (nI sn))] := hl
  refine lv_iconst (v := nI 0) hx hb dX2_firstOfStretch_0 (by decide) ?_
  refine lv_istore_n (lv' := [(3, .int (nI 0)), (0, .ref h0), (1, .ref h5), (2, .int (nI sn))]) hx hb dX2_firstOfStretch_1 rfl hl (by decide) rfl (fun ls hl => ?_)
  have loop_1 : ∀ (n k : Nat), k ≤ 32 → 32 + 1 ≤ k + n → (fnd (fsB D U w sn) 32 0 = fnd (fsB D U w sn) (32 - k) k) → ∀ ls : Array Slot, lv_has ls 4 [(3, .int (nI k)), (0, .ref h0), (1, .ref h5), (2, .int (nI sn))] → W p l e (({ frames := 2, cells := 0, slots := 0, locals := 46 } : Room)) s m ([.ref h0, .ref h5, .int (nI sn)] : List Value).toArray below meth c s.heap [] 0 0 (MQ below (QcRead (fnd (fsB D U w sn) 32 0)) ([.ref h0, .ref h5, .int (nI sn)] : List Value).toArray s 0 0 (fun _ => False)) (F0 m 2 ls []) := by
    intro n
    induction n with
    | zero => intro k h1 h2; exact absurd h2 (by omega)
    | succ n ih =>
      intro k hk_k hn_k hf ls hl
      have ih_2 := ih
      refine lv_iload_n hx hb dX2_firstOfStretch_2 rfl (lv_at hl 0 rfl) ?_
      refine lv_bipush (v := nI 32) hx hb dX2_firstOfStretch_3 (by decide) ?_
      refine nr_ge (tgt := 36) hx hb (by omega) (by omega) dX2_firstOfStretch_5 (by decide) (fun c_5 => ?_) (fun c_5 => ?_)
      · have ek_k : k = 32 := by omega
        subst ek_k
        refine lv_iconst (v := -1) hx hb dX2_firstOfStretch_36 (by decide) ?_
        have hR : (-1 : Int32) = fnd (fsB D U w sn) 32 0 := by rw [hf]; exact (fnd_end 32).symm
        exact W.iret (v := (-1 : Int32)) hx hb hr (fun t ht hW => ⟨congrArg (fun z => Outcome.returned (some (Value.int z))) hR, ht⟩) (fun q h => nomatch h) dX2_firstOfStretch_37
      · refine lv_aload_n hx hb dX2_firstOfStretch_8 rfl (lv_at hl 1 rfl) ?_
        refine lv_iload_n hx hb dX2_firstOfStretch_9 rfl (lv_at hl 0 rfl) ?_
        refine lv_bipush (v := nI 7) hx hb dX2_firstOfStretch_10 (by decide) ?_
        refine cr_i (va_runV (As := [.int (nI k), .int (nI 7)]) (rest := []) ⟨hx, hb, hml, hown, hts⟩ (kX2_byteAt l dd cI cZ cR cJ h0 q1 qd qt U q4 le wl wd D k 7 (by omega) (by omega)) (cwV 2 hts gX2_firstOfStretch_X2_byteAt rfl rfl rfl (by decide +kernel) ⟨Nat.le_of_ble_eq_true rfl, Nat.le_of_ble_eq_true rfl⟩) (pv_c hK hP 0 rfl (ci := 2) rfl [0, 1, 2] rfl) rfl rfl hl.1 rfl (lv_room (Nat.le_of_ble_eq_true rfl)) dX2_firstOfStretch_12 ⟨Nat.zero_le _, Nat.zero_le _⟩) ?_
        have hv := hDb (16 * k + 7)
        refine lv_iload_n hx hb dX2_firstOfStretch_15 rfl (lv_at hl 3 rfl) ?_
        refine nr_ne (tgt := 30) hx hb (by omega) (by omega) dX2_firstOfStretch_16 (by decide) (fun c_16 => ?_) (fun c_16 => ?_)
        · refine lv_iinc (v := nI (k + 1)) (lv' := [(3, .int (nI (k + 1))), (0, .ref h0), (1, .ref h5), (2, .int (nI sn))]) hx hb dX2_firstOfStretch_30 hl (k := 0) rfl (nr_inc _ _ (by omega)) (by decide) rfl (fun ls hl => ?_)
          refine lv_goto (tgt := 2) hx hb dX2_firstOfStretch_33 (by decide) ?_
          exact ih_2 (k + 1) (by omega) (by omega) (by rw [hf, fnd_at (by omega)]; simp [fsB, c_5, c_16]) ls (lv_sub hl [0, 1, 2, 3] rfl)
        · refine lv_aload_n hx hb dX2_firstOfStretch_19 rfl (lv_at hl 1 rfl) ?_
          refine lv_iload_n hx hb dX2_firstOfStretch_20 rfl (lv_at hl 0 rfl) ?_
          refine lv_aload_n hx hb dX2_firstOfStretch_21 rfl (lv_at hl 2 rfl) ?_
          refine cr_i (va_runV (As := [.int (nI k), .ref h5]) (rest := []) ⟨hx, hb, hml, hown, hts⟩ (kX2_fits l dd cI cZ cR cJ h0 q1 qd qt U q4 le wl wd D h5 qw qk op ro st ct pl w k (by omega) hDb hwb (by omega)) (cwV 2 hts gX2_firstOfStretch_X2_fits rfl rfl rfl (by decide +kernel) ⟨Nat.le_of_ble_eq_true rfl, Nat.le_of_ble_eq_true rfl⟩) (pv_c hK hP 0 rfl (ci := 2) rfl [0, 1, 2, 3, 4] rfl) rfl rfl hl.1 rfl (lv_room (Nat.le_of_ble_eq_true rfl)) dX2_firstOfStretch_22 ⟨Nat.zero_le _, Nat.zero_le _⟩) ?_
          refine br_if_eq (tgt := 30) hx hb dX2_firstOfStretch_25 (by decide) (fun c_25 => ?_) (fun c_25 => ?_)
          · refine lv_iinc (v := nI (k + 1)) (lv' := [(3, .int (nI (k + 1))), (0, .ref h0), (1, .ref h5), (2, .int (nI sn))]) hx hb dX2_firstOfStretch_30 hl (k := 0) rfl (nr_inc _ _ (by omega)) (by decide) rfl (fun ls hl => ?_)
            refine lv_goto (tgt := 2) hx hb dX2_firstOfStretch_33 (by decide) ?_
            exact ih_2 (k + 1) (by omega) (by omega) (by rw [hf, fnd_at (by omega)]; simp [fsB, c_5, c_16, c_25]) ls (lv_sub hl [0, 1, 2, 3] rfl)
          · refine lv_iload_n hx hb dX2_firstOfStretch_28 rfl (lv_at hl 0 rfl) ?_
            have hR : nI k = fnd (fsB D U w sn) 32 0 := by rw [hf, fnd_at (by omega)]; simp [fsB, c_5, c_16, c_25]
            exact W.iret (v := nI k) hx hb hr (fun t ht hW => ⟨congrArg (fun z => Outcome.returned (some (Value.int z))) hR, ht⟩) (fun q h => nomatch h) dX2_firstOfStretch_29
  exact loop_1 (32 + 1) 0 (by omega) (by omega) rfl ls (lv_sub hl [0, 1, 2, 3] rfl)

set_option maxHeartbeats 4000000 in
set_option maxRecDepth 100000 in
theorem kX2_firstFree (l : Launch) (dd : va_G) (cI cZ cR cJ : ClassId) (h0 : Nat) (q1 : Nat) (qd : Nat) (qt : Nat) (U : Nat) (q4 : Nat) (le : Bool) (wl : Nat) (wd : Int32) (D : Nat → Nat) (hDb : ∀ j, D j < 256) : Met l yX2_firstFree wsX2_firstFree ({ frames := 2, cells := 0, slots := 0, locals := 43 }) (va_Pc [.ref h0] (qc dd cI cZ cR cJ [(h0, .inr (2, [.ref q1, .ref qd, .ref qt, .int (nI U)])), (q1, .inr (3, [.ref q4, .int (bI le), .int (nI wl), .int wd])), (q4, .inl (cI, 4096, .inl (aN D)))])) (QcRead (fnd (frB D) 32 0)) 0 0 (fun _ => False) := by
  refine mk_met (cc := cX2_firstFree) (maxL := 2) (ret := (some .int)) (by decide) rfl (Nat.le_of_ble_eq_true rfl) ?_
  intro p e s m below meth c hx hb hr hts hown hlocks hml hin hv ls hl
  obtain ⟨hP, hK⟩ := hv
  have hown : s.vm.findClass RX2 = some m.cls := hown
  have hl : lv_has ls 2 [(0, .ref h0)] := hl
  refine lv_iconst (v := nI 0) hx hb dX2_firstFree_0 (by decide) ?_
  refine lv_istore_n (lv' := [(1, .int (nI 0)), (0, .ref h0)]) hx hb dX2_firstFree_1 rfl hl (by decide) rfl (fun ls hl => ?_)
  have loop_1 : ∀ (n k : Nat), k ≤ 32 → 32 + 1 ≤ k + n → (fnd (frB D) 32 0 = fnd (frB D) (32 - k) k) → ∀ ls : Array Slot, lv_has ls 2 [(1, .int (nI k)), (0, .ref h0)] → W p l e (({ frames := 2, cells := 0, slots := 0, locals := 43 } : Room)) s m ([.ref h0] : List Value).toArray below meth c s.heap [] 0 0 (MQ below (QcRead (fnd (frB D) 32 0)) ([.ref h0] : List Value).toArray s 0 0 (fun _ => False)) (F0 m 2 ls []) := by
    intro n
    induction n with
    | zero => intro k h1 h2; exact absurd h2 (by omega)
    | succ n ih =>
      intro k hk_k hn_k hf ls hl
      have ih_2 := ih
      refine lv_iload_n hx hb dX2_firstFree_2 rfl (lv_at hl 0 rfl) ?_
      refine lv_bipush (v := nI 32) hx hb dX2_firstFree_3 (by decide) ?_
      refine nr_ge (tgt := 24) hx hb (by omega) (by omega) dX2_firstFree_5 (by decide) (fun c_5 => ?_) (fun c_5 => ?_)
      · have ek_k : k = 32 := by omega
        subst ek_k
        refine lv_iconst (v := -1) hx hb dX2_firstFree_24 (by decide) ?_
        have hR : (-1 : Int32) = fnd (frB D) 32 0 := by rw [hf]; exact (fnd_end 32).symm
        exact W.iret (v := (-1 : Int32)) hx hb hr (fun t ht hW => ⟨congrArg (fun z => Outcome.returned (some (Value.int z))) hR, ht⟩) (fun q h => nomatch h) dX2_firstFree_25
      · refine lv_aload_n hx hb dX2_firstFree_8 rfl (lv_at hl 1 rfl) ?_
        refine lv_iload_n hx hb dX2_firstFree_9 rfl (lv_at hl 0 rfl) ?_
        refine cr_i (va_runV (As := [.int (nI k)]) (rest := []) ⟨hx, hb, hml, hown, hts⟩ (kX2_isFree l dd cI cZ cR cJ h0 q1 qd qt U q4 le wl wd D k (by omega) hDb) (cwV 1 hts gX2_firstFree_X2_isFree rfl rfl rfl (by decide +kernel) ⟨Nat.le_of_ble_eq_true rfl, Nat.le_of_ble_eq_true rfl⟩) (pv_c hK hP 0 rfl (ci := 2) rfl [0, 1, 2] rfl) rfl rfl hl.1 rfl (lv_room (Nat.le_of_ble_eq_true rfl)) dX2_firstFree_10 ⟨Nat.zero_le _, Nat.zero_le _⟩) ?_
        refine br_if_eq (tgt := 18) hx hb dX2_firstFree_13 (by decide) (fun c_13 => ?_) (fun c_13 => ?_)
        · refine lv_iinc (v := nI (k + 1)) (lv' := [(1, .int (nI (k + 1))), (0, .ref h0)]) hx hb dX2_firstFree_18 hl (k := 0) rfl (nr_inc _ _ (by omega)) (by decide) rfl (fun ls hl => ?_)
          refine lv_goto (tgt := 2) hx hb dX2_firstFree_21 (by decide) ?_
          exact ih_2 (k + 1) (by omega) (by omega) (by rw [hf, fnd_at (by omega)]; simp [c_5, c_13]) ls (lv_sub hl [0, 1] rfl)
        · refine lv_iload_n hx hb dX2_firstFree_16 rfl (lv_at hl 0 rfl) ?_
          have hR : nI k = fnd (frB D) 32 0 := by rw [hf, fnd_at (by omega)]; simp [c_5, c_13]
          exact W.iret (v := nI k) hx hb hr (fun t ht hW => ⟨congrArg (fun z => Outcome.returned (some (Value.int z))) hR, ht⟩) (fun q h => nomatch h) dX2_firstFree_17
  exact loop_1 (32 + 1) 0 (by omega) (by omega) rfl ls (lv_sub hl [0, 1] rfl)

set_option maxHeartbeats 4000000 in
set_option maxRecDepth 100000 in
theorem kX2_freeEntries (l : Launch) (dd : va_G) (cI cZ cR cJ : ClassId) (h0 : Nat) (q1 : Nat) (qd : Nat) (qt : Nat) (U : Nat) (q4 : Nat) (le : Bool) (wl : Nat) (wd : Int32) (D : Nat → Nat) (hDb : ∀ j, D j < 256) : Met l yX2_freeEntries wsX2_freeEntries ({ frames := 2, cells := 0, slots := 0, locals := 43 }) (va_Pc [.ref h0] (qc dd cI cZ cR cJ [(h0, .inr (2, [.ref q1, .ref qd, .ref qt, .int (nI U)])), (q1, .inr (3, [.ref q4, .int (bI le), .int (nI wl), .int wd])), (q4, .inl (cI, 4096, .inl (aN D)))])) (QcRead (nI (cnt (frB D) 32))) 0 0 (fun _ => False) := by
  refine mk_met (cc := cX2_freeEntries) (maxL := 3) (ret := (some .int)) (by decide) rfl (Nat.le_of_ble_eq_true rfl) ?_
  intro p e s m below meth c hx hb hr hts hown hlocks hml hin hv ls hl
  obtain ⟨hP, hK⟩ := hv
  have hown : s.vm.findClass RX2 = some m.cls := hown
  have hl : lv_has ls 3 [(0, .ref h0)] := hl
  refine lv_iconst (v := nI 0) hx hb dX2_freeEntries_0 (by decide) ?_
  refine lv_istore_n (lv' := [(1, .int (nI 0)), (0, .ref h0)]) hx hb dX2_freeEntries_1 rfl hl (by decide) rfl (fun ls hl => ?_)
  refine lv_iconst (v := nI 0) hx hb dX2_freeEntries_2 (by decide) ?_
  refine lv_istore_n (lv' := [(2, .int (nI 0)), (1, .int (nI 0)), (0, .ref h0)]) hx hb dX2_freeEntries_3 rfl hl (by decide) rfl (fun ls hl => ?_)
  have loop_1 : ∀ (n k : Nat), k ≤ 32 → 32 + 1 ≤ k + n → ∀ ls : Array Slot, lv_has ls 3 [(2, .int (nI k)), (1, .int (nI (cnt (frB D) k))), (0, .ref h0)] → W p l e (({ frames := 2, cells := 0, slots := 0, locals := 43 } : Room)) s m ([.ref h0] : List Value).toArray below meth c s.heap [] 0 0 (MQ below (QcRead (nI (cnt (frB D) 32))) ([.ref h0] : List Value).toArray s 0 0 (fun _ => False)) (F0 m 4 ls []) := by
    intro n
    induction n with
    | zero => intro k h1 h2; exact absurd h2 (by omega)
    | succ n ih =>
      intro k hk_k hn_k ls hl
      have ih_2 := ih
      refine lv_iload_n hx hb dX2_freeEntries_4 rfl (lv_at hl 0 rfl) ?_
      refine lv_bipush (v := nI 32) hx hb dX2_freeEntries_5 (by decide) ?_
      refine nr_ge (tgt := 27) hx hb (by omega) (by omega) dX2_freeEntries_7 (by decide) (fun c_7 => ?_) (fun c_7 => ?_)
      · have ek_k : k = 32 := by omega
        subst ek_k
        refine lv_iload_n hx hb dX2_freeEntries_27 rfl (lv_at hl 1 rfl) ?_
        have hR : nI (cnt (frB D) 32) = nI (cnt (frB D) 32) := rfl
        exact W.iret (v := nI (cnt (frB D) 32)) hx hb hr (fun t ht hW => ⟨congrArg (fun z => Outcome.returned (some (Value.int z))) hR, ht⟩) (fun q h => nomatch h) dX2_freeEntries_28
      · refine lv_aload_n hx hb dX2_freeEntries_10 rfl (lv_at hl 2 rfl) ?_
        refine lv_iload_n hx hb dX2_freeEntries_11 rfl (lv_at hl 0 rfl) ?_
        refine cr_i (va_runV (As := [.int (nI k)]) (rest := []) ⟨hx, hb, hml, hown, hts⟩ (kX2_isFree l dd cI cZ cR cJ h0 q1 qd qt U q4 le wl wd D k (by omega) hDb) (cwV 1 hts gX2_freeEntries_X2_isFree rfl rfl rfl (by decide +kernel) ⟨Nat.le_of_ble_eq_true rfl, Nat.le_of_ble_eq_true rfl⟩) (pv_c hK hP 0 rfl (ci := 2) rfl [0, 1, 2] rfl) rfl rfl hl.1 rfl (lv_room (Nat.le_of_ble_eq_true rfl)) dX2_freeEntries_12 ⟨Nat.zero_le _, Nat.zero_le _⟩) ?_
        refine br_if_eq (tgt := 21) hx hb dX2_freeEntries_15 (by decide) (fun c_15 => ?_) (fun c_15 => ?_)
        · refine lv_iinc (v := nI (k + 1)) (lv' := [(2, .int (nI (k + 1))), (1, .int (nI (cnt (frB D) k))), (0, .ref h0)]) hx hb dX2_freeEntries_21 hl (k := 0) rfl (nr_inc _ _ (by omega)) (by decide) rfl (fun ls hl => ?_)
          refine lv_goto (tgt := 4) hx hb dX2_freeEntries_24 (by decide) ?_
          rw [show cnt (frB D) k = cnt (frB D) (k + 1) by simp [cnt, c_7, c_15]] at hl
          exact ih_2 (k + 1) (by omega) (by omega) ls (lv_sub hl [0, 1, 2] rfl)
        · refine lv_iinc (v := nI (cnt (frB D) k + 1)) (lv' := [(1, .int (nI (cnt (frB D) k + 1))), (2, .int (nI k)), (0, .ref h0)]) hx hb dX2_freeEntries_18 hl (k := 1) rfl (nr_inc _ _ (by omega)) (by decide) rfl (fun ls hl => ?_)
          refine lv_iinc (v := nI (k + 1)) (lv' := [(2, .int (nI (k + 1))), (1, .int (nI (cnt (frB D) k + 1))), (0, .ref h0)]) hx hb dX2_freeEntries_21 hl (k := 1) rfl (nr_inc _ _ (by omega)) (by decide) rfl (fun ls hl => ?_)
          refine lv_goto (tgt := 4) hx hb dX2_freeEntries_24 (by decide) ?_
          rw [show cnt (frB D) k + 1 = cnt (frB D) (k + 1) by simp [cnt, c_7, c_15]] at hl
          exact ih_2 (k + 1) (by omega) (by omega) ls (lv_sub hl [0, 1, 2] rfl)
  exact loop_1 (32 + 1) 0 (by omega) (by omega) ls (lv_sub hl [0, 1, 2] rfl)

set_option maxHeartbeats 4000000 in
set_option maxRecDepth 100000 in
theorem kX2_hasReadOnly (l : Launch) (dd : va_G) (cI cZ cR cJ : ClassId) (h0 : Nat) (q1 : Nat) (qd : Nat) (qt : Nat) (U : Nat) (q4 : Nat) (le : Bool) (wl : Nat) (wd : Int32) (D : Nat → Nat) (h5 : Nat) (qw : Nat) (qk : Nat) (op : Bool) (ro : Bool) (st : Nat) (ct : Nat) (pl : Nat) (w : Nat → Nat) (hDb : ∀ j, D j < 256) (hwb : ∀ j, w j < 128) (hUb : U < 16) : Met l yX2_hasReadOnly wsX2_hasReadOnly ({ frames := 2, cells := 0, slots := 0, locals := 46 }) (va_Pc [.ref h0, .ref h5] (qc dd cI cZ cR cJ [(h0, .inr (2, [.ref q1, .ref qd, .ref qt, .int (nI U)])), (q1, .inr (3, [.ref q4, .int (bI le), .int (nI wl), .int wd])), (q4, .inl (cI, 4096, .inl (aN D))), (h5, .inr (1, [.ref qw, .ref qk, .int (bI op), .int (bI ro), .int (nI st), .int (nI ct), .int (nI pl)])), (qw, .inl (cI, 6, .inl (aN w)))])) (QcRead (bI (anyB (hrB D U w) 32))) 0 0 (fun _ => False) := by
  refine mk_met (cc := cX2_hasReadOnly) (maxL := 3) (ret := (some .boolean)) (by decide) rfl (Nat.le_of_ble_eq_true rfl) ?_
  intro p e s m below meth c hx hb hr hts hown hlocks hml hin hv ls hl
  obtain ⟨hP, hK⟩ := hv
  have hown : s.vm.findClass RX2 = some m.cls := hown
  have hl : lv_has ls 3 [(0, .ref h0), (1, .ref h5)] := hl
  refine lv_iconst (v := nI 0) hx hb dX2_hasReadOnly_0 (by decide) ?_
  refine lv_istore_n (lv' := [(2, .int (nI 0)), (0, .ref h0), (1, .ref h5)]) hx hb dX2_hasReadOnly_1 rfl hl (by decide) rfl (fun ls hl => ?_)
  have loop_1 : ∀ (n k : Nat), k ≤ 32 → 32 + 1 ≤ k + n → (anyB (hrB D U w) k = false) → ∀ ls : Array Slot, lv_has ls 3 [(2, .int (nI k)), (0, .ref h0), (1, .ref h5)] → W p l e (({ frames := 2, cells := 0, slots := 0, locals := 46 } : Room)) s m ([.ref h0, .ref h5] : List Value).toArray below meth c s.heap [] 0 0 (MQ below (QcRead (bI (anyB (hrB D U w) 32))) ([.ref h0, .ref h5] : List Value).toArray s 0 0 (fun _ => False)) (F0 m 2 ls []) := by
    intro n
    induction n with
    | zero => intro k h1 h2; exact absurd h2 (by omega)
    | succ n ih =>
      intro k hk_k hn_k hf ls hl
      have ih_2 := ih
      refine lv_iload_n hx hb dX2_hasReadOnly_2 rfl (lv_at hl 0 rfl) ?_
      refine lv_bipush (v := nI 32) hx hb dX2_hasReadOnly_3 (by decide) ?_
      refine nr_ge (tgt := 33) hx hb (by omega) (by omega) dX2_hasReadOnly_5 (by decide) (fun c_5 => ?_) (fun c_5 => ?_)
      · have ek_k : k = 32 := by omega
        subst ek_k
        refine lv_iconst (v := nI 0) hx hb dX2_hasReadOnly_33 (by decide) ?_
        have hR : nI 0 = bI (anyB (hrB D U w) 32) := bI_zero hf
        exact W.zret (v := nI 0) hx hb hr (by decide) (fun t ht hW => ⟨congrArg (fun z => Outcome.returned (some (Value.int z))) hR, ht⟩) (fun q h => nomatch h) dX2_hasReadOnly_34
      · refine lv_aload_n hx hb dX2_hasReadOnly_8 rfl (lv_at hl 1 rfl) ?_
        refine lv_iload_n hx hb dX2_hasReadOnly_9 rfl (lv_at hl 0 rfl) ?_
        refine cr_i (va_runV (As := [.int (nI k)]) (rest := []) ⟨hx, hb, hml, hown, hts⟩ (kX2_isReadOnly l dd cI cZ cR cJ h0 q1 qd qt U q4 le wl wd D k (by omega) hDb) (cwV 1 hts gX2_hasReadOnly_X2_isReadOnly rfl rfl rfl (by decide +kernel) ⟨Nat.le_of_ble_eq_true rfl, Nat.le_of_ble_eq_true rfl⟩) (pv_c hK hP 0 rfl (ci := 2) rfl [0, 1, 2] rfl) rfl rfl hl.1 rfl (lv_room (Nat.le_of_ble_eq_true rfl)) dX2_hasReadOnly_10 ⟨Nat.zero_le _, Nat.zero_le _⟩) ?_
        refine br_if_eq (tgt := 27) hx hb dX2_hasReadOnly_13 (by decide) (fun c_13 => ?_) (fun c_13 => ?_)
        · refine lv_iinc (v := nI (k + 1)) (lv' := [(2, .int (nI (k + 1))), (0, .ref h0), (1, .ref h5)]) hx hb dX2_hasReadOnly_27 hl (k := 0) rfl (nr_inc _ _ (by omega)) (by decide) rfl (fun ls hl => ?_)
          refine lv_goto (tgt := 2) hx hb dX2_hasReadOnly_30 (by decide) ?_
          exact ih_2 (k + 1) (by omega) (by omega) (by simp [anyB, hf, hrB, c_5, c_13]) ls (lv_sub hl [0, 1, 2] rfl)
        · refine lv_aload_n hx hb dX2_hasReadOnly_16 rfl (lv_at hl 1 rfl) ?_
          refine lv_iload_n hx hb dX2_hasReadOnly_17 rfl (lv_at hl 0 rfl) ?_
          refine lv_aload_n hx hb dX2_hasReadOnly_18 rfl (lv_at hl 2 rfl) ?_
          refine cr_i (va_runV (As := [.int (nI k), .ref h5]) (rest := []) ⟨hx, hb, hml, hown, hts⟩ (kX2_fits l dd cI cZ cR cJ h0 q1 qd qt U q4 le wl wd D h5 qw qk op ro st ct pl w k (by omega) hDb hwb (by omega)) (cwV 2 hts gX2_hasReadOnly_X2_fits rfl rfl rfl (by decide +kernel) ⟨Nat.le_of_ble_eq_true rfl, Nat.le_of_ble_eq_true rfl⟩) (pv_c hK hP 0 rfl (ci := 2) rfl [0, 1, 2, 3, 4] rfl) rfl rfl hl.1 rfl (lv_room (Nat.le_of_ble_eq_true rfl)) dX2_hasReadOnly_19 ⟨Nat.zero_le _, Nat.zero_le _⟩) ?_
          refine br_if_eq (tgt := 27) hx hb dX2_hasReadOnly_22 (by decide) (fun c_22 => ?_) (fun c_22 => ?_)
          · refine lv_iinc (v := nI (k + 1)) (lv' := [(2, .int (nI (k + 1))), (0, .ref h0), (1, .ref h5)]) hx hb dX2_hasReadOnly_27 hl (k := 0) rfl (nr_inc _ _ (by omega)) (by decide) rfl (fun ls hl => ?_)
            refine lv_goto (tgt := 2) hx hb dX2_hasReadOnly_30 (by decide) ?_
            exact ih_2 (k + 1) (by omega) (by omega) (by simp [anyB, hf, hrB, c_5, c_13, c_22]) ls (lv_sub hl [0, 1, 2] rfl)
          · refine lv_iconst (v := nI 1) hx hb dX2_hasReadOnly_25 (by decide) ?_
            have hR : nI 1 = bI (anyB (hrB D U w) 32) := bI_one (anyB_yes (k := k) (by simp [hrB, c_5, c_13, c_22]) 32 (by omega))
            exact W.zret (v := nI 1) hx hb hr (by decide) (fun t ht hW => ⟨congrArg (fun z => Outcome.returned (some (Value.int z))) hR, ht⟩) (fun q h => nomatch h) dX2_hasReadOnly_26
  exact loop_1 (32 + 1) 0 (by omega) (by omega) rfl ls (lv_sub hl [0, 1, 2] rfl)

set_option maxHeartbeats 4000000 in
set_option maxRecDepth 100000 in
theorem kX2_greatestEnd (l : Launch) (dd : va_G) (cI cZ cR cJ : ClassId) (h0 : Nat) (q1 : Nat) (qd : Nat) (qt : Nat) (U : Nat) (q4 : Nat) (le : Bool) (wl : Nat) (wd : Int32) (D : Nat → Nat) (h5 : Nat) (qw : Nat) (qk : Nat) (op : Bool) (ro : Bool) (st : Nat) (ct : Nat) (pl : Nat) (w : Nat → Nat) (hDb : ∀ j, D j < 256) (hwb : ∀ j, w j < 128) (hUb : U < 16) : Met l yX2_greatestEnd wsX2_greatestEnd ({ frames := 2, cells := 0, slots := 0, locals := 46 }) (va_Pc [.ref h0, .ref h5] (qc dd cI cZ cR cJ [(h0, .inr (2, [.ref q1, .ref qd, .ref qt, .int (nI U)])), (q1, .inr (3, [.ref q4, .int (bI le), .int (nI wl), .int wd])), (q4, .inl (cI, 4096, .inl (aN D))), (h5, .inr (1, [.ref qw, .ref qk, .int (bI op), .int (bI ro), .int (nI st), .int (nI ct), .int (nI pl)])), (qw, .inl (cI, 6, .inl (aN w)))])) (QcRead (nI (gre (ftB D U w) (enN D) 32))) 0 0 (fun _ => False) := by
  refine mk_met (cc := cX2_greatestEnd) (maxL := 5) (ret := (some .int)) (by decide) rfl (Nat.le_of_ble_eq_true rfl) ?_
  intro p e s m below meth c hx hb hr hts hown hlocks hml hin hv ls hl
  obtain ⟨hP, hK⟩ := hv
  have hown : s.vm.findClass RX2 = some m.cls := hown
  have hl : lv_has ls 5 [(0, .ref h0), (1, .ref h5)] := hl
  refine lv_iconst (v := nI 0) hx hb dX2_greatestEnd_0 (by decide) ?_
  refine lv_istore_n (lv' := [(2, .int (nI 0)), (0, .ref h0), (1, .ref h5)]) hx hb dX2_greatestEnd_1 rfl hl (by decide) rfl (fun ls hl => ?_)
  refine lv_iconst (v := nI 0) hx hb dX2_greatestEnd_2 (by decide) ?_
  refine lv_istore_n (lv' := [(3, .int (nI 0)), (2, .int (nI 0)), (0, .ref h0), (1, .ref h5)]) hx hb dX2_greatestEnd_3 rfl hl (by decide) rfl (fun ls hl => ?_)
  have loop_1 : ∀ (n k : Nat), k ≤ 32 → 32 + 1 ≤ k + n → ∀ ls : Array Slot, lv_has ls 5 [(3, .int (nI k)), (2, .int (nI (gre (ftB D U w) (enN D) k))), (0, .ref h0), (1, .ref h5)] → W p l e (({ frames := 2, cells := 0, slots := 0, locals := 46 } : Room)) s m ([.ref h0, .ref h5] : List Value).toArray below meth c s.heap [] 0 0 (MQ below (QcRead (nI (gre (ftB D U w) (enN D) 32))) ([.ref h0, .ref h5] : List Value).toArray s 0 0 (fun _ => False)) (F0 m 4 ls []) := by
    intro n
    induction n with
    | zero => intro k h1 h2; exact absurd h2 (by omega)
    | succ n ih =>
      intro k hk_k hn_k ls hl
      have ih_2 := ih
      have hg := gre_le (ftB D U w) (enN D) 10000 (fun j => by have h1 := hDb (16 * j + 7); have h2 := hDb (16 * j + 8); simp only [enN]; omega) k
      refine lv_iload_n hx hb dX2_greatestEnd_4 rfl (lv_at hl 0 rfl) ?_
      refine lv_bipush (v := nI 32) hx hb dX2_greatestEnd_5 (by decide) ?_
      refine nr_ge (tgt := 52) hx hb (by omega) (by omega) dX2_greatestEnd_7 (by decide) (fun c_7 => ?_) (fun c_7 => ?_)
      · have ek_k : k = 32 := by omega
        subst ek_k
        refine lv_iload_n hx hb dX2_greatestEnd_52 rfl (lv_at hl 1 rfl) ?_
        have hR : nI (gre (ftB D U w) (enN D) 32) = nI (gre (ftB D U w) (enN D) 32) := rfl
        exact W.iret (v := nI (gre (ftB D U w) (enN D) 32)) hx hb hr (fun t ht hW => ⟨congrArg (fun z => Outcome.returned (some (Value.int z))) hR, ht⟩) (fun q h => nomatch h) dX2_greatestEnd_53
      · refine lv_aload_n hx hb dX2_greatestEnd_10 rfl (lv_at hl 2 rfl) ?_
        refine lv_iload_n hx hb dX2_greatestEnd_11 rfl (lv_at hl 0 rfl) ?_
        refine lv_aload_n hx hb dX2_greatestEnd_12 rfl (lv_at hl 3 rfl) ?_
        refine cr_i (va_runV (As := [.int (nI k), .ref h5]) (rest := []) ⟨hx, hb, hml, hown, hts⟩ (kX2_fits l dd cI cZ cR cJ h0 q1 qd qt U q4 le wl wd D h5 qw qk op ro st ct pl w k (by omega) hDb hwb (by omega)) (cwV 2 hts gX2_greatestEnd_X2_fits rfl rfl rfl (by decide +kernel) ⟨Nat.le_of_ble_eq_true rfl, Nat.le_of_ble_eq_true rfl⟩) (pv_c hK hP 0 rfl (ci := 2) rfl [0, 1, 2, 3, 4] rfl) rfl rfl hl.1 rfl (lv_room (Nat.le_of_ble_eq_true rfl)) dX2_greatestEnd_13 ⟨Nat.zero_le _, Nat.zero_le _⟩) ?_
        refine br_if_eq (tgt := 46) hx hb dX2_greatestEnd_16 (by decide) (fun c_16 => ?_) (fun c_16 => ?_)
        · refine lv_iinc (v := nI (k + 1)) (lv' := [(3, .int (nI (k + 1))), (2, .int (nI (gre (ftB D U w) (enN D) k))), (0, .ref h0), (1, .ref h5)]) hx hb dX2_greatestEnd_46 hl (k := 0) rfl (nr_inc _ _ (by omega)) (by decide) rfl (fun ls hl => ?_)
          refine lv_goto (tgt := 4) hx hb dX2_greatestEnd_49 (by decide) ?_
          rw [show gre (ftB D U w) (enN D) k = gre (ftB D U w) (enN D) (k + 1) by simp [gre, enN, c_7, c_16]] at hl
          exact ih_2 (k + 1) (by omega) (by omega) ls (lv_sub hl [0, 1, 2, 3] rfl)
        · refine lv_bipush (v := nI 28) hx hb dX2_greatestEnd_19 (by decide) ?_
          refine lv_aload_n hx hb dX2_greatestEnd_21 rfl (lv_at hl 2 rfl) ?_
          refine lv_iload_n hx hb dX2_greatestEnd_22 rfl (lv_at hl 0 rfl) ?_
          refine lv_bipush (v := nI 7) hx hb dX2_greatestEnd_23 (by decide) ?_
          refine cr_i (va_runV (As := [.int (nI k), .int (nI 7)]) (rest := [.int (nI 28)]) ⟨hx, hb, hml, hown, hts⟩ (kX2_byteAt l dd cI cZ cR cJ h0 q1 qd qt U q4 le wl wd D k 7 (by omega) (by omega)) (cwV 2 hts gX2_greatestEnd_X2_byteAt rfl rfl rfl (by decide +kernel) ⟨Nat.le_of_ble_eq_true rfl, Nat.le_of_ble_eq_true rfl⟩) (pv_c hK hP 0 rfl (ci := 2) rfl [0, 1, 2] rfl) rfl rfl hl.1 rfl (lv_room (Nat.le_of_ble_eq_true rfl)) dX2_greatestEnd_25 ⟨Nat.zero_le _, Nat.zero_le _⟩) ?_
          have hv7 := hDb (16 * k + 7)
          refine nr_imul (28 * (D (16 * k + 7))) (by omega) hx hb dX2_greatestEnd_28 ?_
          refine lv_aload_n hx hb dX2_greatestEnd_29 rfl (lv_at hl 2 rfl) ?_
          refine lv_iload_n hx hb dX2_greatestEnd_30 rfl (lv_at hl 0 rfl) ?_
          refine lv_bipush (v := nI 8) hx hb dX2_greatestEnd_31 (by decide) ?_
          refine cr_i (va_runV (As := [.int (nI k), .int (nI 8)]) (rest := [.int (nI (28 * (D (16 * k + 7))))]) ⟨hx, hb, hml, hown, hts⟩ (kX2_byteAt l dd cI cZ cR cJ h0 q1 qd qt U q4 le wl wd D k 8 (by omega) (by omega)) (cwV 2 hts gX2_greatestEnd_X2_byteAt rfl rfl rfl (by decide +kernel) ⟨Nat.le_of_ble_eq_true rfl, Nat.le_of_ble_eq_true rfl⟩) (pv_c hK hP 0 rfl (ci := 2) rfl [0, 1, 2] rfl) rfl rfl hl.1 rfl (lv_room (Nat.le_of_ble_eq_true rfl)) dX2_greatestEnd_33 ⟨Nat.zero_le _, Nat.zero_le _⟩) ?_
          have hv8 := hDb (16 * k + 8)
          refine nr_iadd (28 * (D (16 * k + 7)) + D (16 * k + 8)) (by omega) hx hb dX2_greatestEnd_36 ?_
          refine lv_istore (lv' := [(4, .int (nI (28 * (D (16 * k + 7)) + D (16 * k + 8)))), (3, .int (nI k)), (2, .int (nI (gre (ftB D U w) (enN D) k))), (0, .ref h0), (1, .ref h5)]) hx hb dX2_greatestEnd_37 hl (by decide) rfl (fun ls hl => ?_)
          refine lv_iload_n hx hb dX2_greatestEnd_39 rfl (lv_at hl 2 rfl) ?_
          refine lv_iload hx hb dX2_greatestEnd_40 (lv_at hl 0 rfl) ?_
          refine nr_max (max (gre (ftB D U w) (enN D) k) (28 * (D (16 * k + 7)) + D (16 * k + 8))) rfl hx hb (hml.trans hl.1.symm) hown (hts (.methodLink RX2 51 Lib.Math.max.name) (by decide +kernel)) (hts (.static Lib.Math.max.name) (by decide +kernel)) (hts (.initialized "java/lang/Math") (by decide +kernel)) (hts (.code Lib.Math.max.name Lib.Math.max.code 2 (some .int)) (by decide +kernel)) (Nat.le_of_ble_eq_true rfl) (Nat.le_of_ble_eq_true rfl) (Nat.zero_le _) (Nat.zero_le _) (by omega) (by omega) dX2_greatestEnd_42 ?_
          refine lv_istore_n (lv' := [(2, .int (nI (max (gre (ftB D U w) (enN D) k) (28 * (D (16 * k + 7)) + D (16 * k + 8))))), (4, .int (nI (28 * (D (16 * k + 7)) + D (16 * k + 8)))), (3, .int (nI k)), (0, .ref h0), (1, .ref h5)]) hx hb dX2_greatestEnd_45 rfl hl (by decide) rfl (fun ls hl => ?_)
          refine lv_iinc (v := nI (k + 1)) (lv' := [(3, .int (nI (k + 1))), (2, .int (nI (max (gre (ftB D U w) (enN D) k) (28 * (D (16 * k + 7)) + D (16 * k + 8))))), (4, .int (nI (28 * (D (16 * k + 7)) + D (16 * k + 8)))), (0, .ref h0), (1, .ref h5)]) hx hb dX2_greatestEnd_46 hl (k := 2) rfl (nr_inc _ _ (by omega)) (by decide) rfl (fun ls hl => ?_)
          refine lv_goto (tgt := 4) hx hb dX2_greatestEnd_49 (by decide) ?_
          rw [show max (gre (ftB D U w) (enN D) k) (28 * (D (16 * k + 7)) + D (16 * k + 8)) = gre (ftB D U w) (enN D) (k + 1) by simp [gre, enN, c_7, c_16]] at hl
          exact ih_2 (k + 1) (by omega) (by omega) ls (lv_sub hl [0, 1, 3, 4] rfl)
  exact loop_1 (32 + 1) 0 (by omega) (by omega) ls (lv_sub hl [0, 1, 2, 3] rfl)

set_option maxHeartbeats 4000000 in
set_option maxRecDepth 100000 in
theorem kX0_untaken (l : Launch) (dd : va_G) (cI cZ cR cJ : ClassId) (h0 : Nat) (q1 : Nat) (T : Nat → Bool) : Met l yX0_untaken wsX0_untaken ({ frames := 0, cells := 0, slots := 0, locals := 0 }) (va_Pc [.ref h0] (qc dd cI cZ cR cJ [(h0, .inr (0, [.ref q1])), (q1, .inl (cZ, 64, .inl (aB T)))])) (QcRead (nI (cnt (ntB T) 64))) 0 0 (fun _ => False) := by
  refine mk_met (cc := cX0_untaken) (maxL := 3) (ret := (some .int)) (by decide) rfl (Nat.le_of_ble_eq_true rfl) ?_
  intro p e s m below meth c hx hb hr hts hown hlocks hml hin hv ls hl
  obtain ⟨hP, hK⟩ := hv
  have hown : s.vm.findClass RX0 = some m.cls := hown
  have hl : lv_has ls 3 [(0, .ref h0)] := hl
  have hf_9 := hts (.fieldLink RX0 9 "RecordSystem$BlockMap" "taken" "[Z") (by decide +kernel)
  have hin_X0 : ∀ w ∈ wsX00, w ∈ wsX0_untaken := by decide +kernel
  refine lv_iconst (v := nI 0) hx hb dX0_untaken_0 (by decide) ?_
  refine lv_istore_n (lv' := [(1, .int (nI 0)), (0, .ref h0)]) hx hb dX0_untaken_1 rfl hl (by decide) rfl (fun ls hl => ?_)
  refine lv_iconst (v := nI 0) hx hb dX0_untaken_2 (by decide) ?_
  refine lv_istore_n (lv' := [(2, .int (nI 0)), (1, .int (nI 0)), (0, .ref h0)]) hx hb dX0_untaken_3 rfl hl (by decide) rfl (fun ls hl => ?_)
  have loop_1 : ∀ (n k : Nat), k ≤ 64 → 64 + 1 ≤ k + n → ∀ ls : Array Slot, lv_has ls 3 [(2, .int (nI k)), (1, .int (nI (cnt (ntB T) k))), (0, .ref h0)] → W p l e (({ frames := 0, cells := 0, slots := 0, locals := 0 } : Room)) s m ([.ref h0] : List Value).toArray below meth c s.heap [] 0 0 (MQ below (QcRead (nI (cnt (ntB T) 64))) ([.ref h0] : List Value).toArray s 0 0 (fun _ => False)) (F0 m 4 ls []) := by
    intro n
    induction n with
    | zero => intro k h1 h2; exact absurd h2 (by omega)
    | succ n ih =>
      intro k hk_k hn_k ls hl
      have ih_2 := ih
      refine lv_iload_n hx hb dX0_untaken_4 rfl (lv_at hl 0 rfl) ?_
      refine lv_bipush (v := nI 64) hx hb dX0_untaken_5 (by decide) ?_
      refine nr_ge (tgt := 28) hx hb (by omega) (by omega) dX0_untaken_7 (by decide) (fun c_7 => ?_) (fun c_7 => ?_)
      · have ek_k : k = 64 := by omega
        subst ek_k
        refine lv_iload_n hx hb dX0_untaken_28 rfl (lv_at hl 1 rfl) ?_
        have hR : nI (cnt (ntB T) 64) = nI (cnt (ntB T) 64) := rfl
        exact W.iret (v := nI (cnt (ntB T) 64)) hx hb hr (fun t ht hW => ⟨congrArg (fun z => Outcome.returned (some (Value.int z))) hR, ht⟩) (fun q h => nomatch h) dX0_untaken_29
      · refine lv_aload_n hx hb dX0_untaken_10 rfl (lv_at hl 2 rfl) ?_
        refine va_get (D := dd) (ci := 0) (v := .ref q1) (C := RX0) (T := TX0) (N := 1) hx hb hts hin_X0 hown hK.1 hP 0 rfl rfl 0 (by decide) hf_9 (fun _ h9 => h9) rfl dX0_untaken_11 ?_
        refine lv_iload_n hx hb dX0_untaken_14 rfl (lv_at hl 0 rfl) ?_
        refine nr_zald (f := T) hx hb hK hP 1 rfl (by omega) (by decide) dX0_untaken_15 ?_
        refine br_if_ne (tgt := 22) hx hb dX0_untaken_16 (by decide) (fun c_16 => ?_) (fun c_16 => ?_)
        · refine lv_iinc (v := nI (k + 1)) (lv' := [(2, .int (nI (k + 1))), (1, .int (nI (cnt (ntB T) k))), (0, .ref h0)]) hx hb dX0_untaken_22 hl (k := 0) rfl (nr_inc _ _ (by omega)) (by decide) rfl (fun ls hl => ?_)
          refine lv_goto (tgt := 4) hx hb dX0_untaken_25 (by decide) ?_
          rw [show cnt (ntB T) k = cnt (ntB T) (k + 1) by simp [cnt, ntB, c_7, c_16]] at hl
          exact ih_2 (k + 1) (by omega) (by omega) ls (lv_sub hl [0, 1, 2] rfl)
        · refine lv_iinc (v := nI (cnt (ntB T) k + 1)) (lv' := [(1, .int (nI (cnt (ntB T) k + 1))), (2, .int (nI k)), (0, .ref h0)]) hx hb dX0_untaken_19 hl (k := 1) rfl (nr_inc _ _ (by omega)) (by decide) rfl (fun ls hl => ?_)
          refine lv_iinc (v := nI (k + 1)) (lv' := [(2, .int (nI (k + 1))), (1, .int (nI (cnt (ntB T) k + 1))), (0, .ref h0)]) hx hb dX0_untaken_22 hl (k := 1) rfl (nr_inc _ _ (by omega)) (by decide) rfl (fun ls hl => ?_)
          refine lv_goto (tgt := 4) hx hb dX0_untaken_25 (by decide) ?_
          rw [show cnt (ntB T) k + 1 = cnt (ntB T) (k + 1) by simp [cnt, ntB, c_7, c_16]] at hl
          exact ih_2 (k + 1) (by omega) (by omega) ls (lv_sub hl [0, 1, 2] rfl)
  exact loop_1 (64 + 1) 0 (by omega) (by omega) ls (lv_sub hl [0, 1, 2] rfl)

set_option maxHeartbeats 4000000 in
set_option maxRecDepth 100000 in
theorem kX1_recordAt (l : Launch) (dd : va_G) (cI cZ cR cJ : ClassId) (h5 : Nat) (qw : Nat) (qk : Nat) (op : Bool) (ro : Bool) (st : Nat) (ct : Nat) (pl : Nat) (bl : Nat → Nat) (pn : Nat) (hp : pn < 28) (hbl : ∀ j, bl j < 256) : Met l yX1_recordAt wsX1_recordAt ({ frames := 0, cells := 0, slots := 0, locals := 0 }) (va_Pc [.ref h5, .int (nI pn)] (qc dd cI cZ cR cJ [(h5, .inr (1, [.ref qw, .ref qk, .int (bI op), .int (bI ro), .int (nI st), .int (nI ct), .int (nI pl)])), (qk, .inl (cI, 7, .inl (aN bl)))])) (QcRead (nI (4 * (bl (pn / 4) % 64) + pn % 4))) 0 0 (fun _ => False) := by
  refine mk_met (cc := cX1_recordAt) (maxL := 2) (ret := (some .int)) (by decide) rfl (Nat.le_of_ble_eq_true rfl) ?_
  intro p e s m below meth c hx hb hr hts hown hlocks hml hin hv ls hl
  obtain ⟨hP, hK⟩ := hv
  have hown : s.vm.findClass RX1 = some m.cls := hown
  have hl : lv_has ls 2 [(0, .ref h5), (1, .int (nI pn))] := hl
  have hf_15 := hts (.fieldLink RX1 15 "RecordSystem$Control" "blocks" "[I") (by decide +kernel)
  have hin_X1 : ∀ w ∈ wsX10, w ∈ wsX1_recordAt := by decide +kernel
  refine lv_aload_n hx hb dX1_recordAt_0 rfl (lv_at hl 0 rfl) ?_
  refine va_get (D := dd) (ci := 1) (v := .ref qk) (C := RX1) (T := TX1) (N := 7) hx hb hts hin_X1 hown hK.1 hP 0 rfl rfl 1 (by decide) hf_15 (fun _ h9 => h9) rfl dX1_recordAt_1 ?_
  refine lv_iload_n hx hb dX1_recordAt_4 rfl (lv_at hl 1 rfl) ?_
  refine lv_iconst (v := nI 4) hx hb dX1_recordAt_5 (by decide) ?_
  refine nr_idiv ((pn / 4)) (by omega) hx hb (by omega) (by omega) (by omega) dX1_recordAt_6 ?_
  refine nr_iald (f := bl) hx hb hK hP 1 rfl (by omega) (by decide) dX1_recordAt_7 ?_
  have hv_1 := hbl (pn / 4)
  refine lv_bipush (v := nI 64) hx hb dX1_recordAt_8 (by decide) ?_
  refine nr_irem (((bl (pn / 4)) % 64)) (by omega) hx hb (by omega) (by omega) (by omega) dX1_recordAt_10 ?_
  refine lv_iconst (v := nI 4) hx hb dX1_recordAt_11 (by decide) ?_
  refine nr_imul (4 * ((bl (pn / 4)) % 64)) (by omega) hx hb dX1_recordAt_12 ?_
  refine lv_iload_n hx hb dX1_recordAt_13 rfl (lv_at hl 1 rfl) ?_
  refine lv_iconst (v := nI 4) hx hb dX1_recordAt_14 (by decide) ?_
  refine nr_irem ((pn % 4)) (by omega) hx hb (by omega) (by omega) (by omega) dX1_recordAt_15 ?_
  refine nr_iadd (4 * ((bl (pn / 4)) % 64) + (pn % 4)) (by omega) hx hb dX1_recordAt_16 ?_
  have hR : nI (4 * ((bl (pn / 4)) % 64) + (pn % 4)) = nI (4 * (bl (pn / 4) % 64) + pn % 4) := rfl
  exact W.iret (v := nI (4 * ((bl (pn / 4)) % 64) + (pn % 4))) hx hb hr (fun t ht hW => ⟨congrArg (fun z => Outcome.returned (some (Value.int z))) hR, ht⟩) (fun q h => nomatch h) dX1_recordAt_17
