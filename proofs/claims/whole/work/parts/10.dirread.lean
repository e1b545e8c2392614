set_option maxHeartbeats 4000000 in
set_option maxRecDepth 100000 in
theorem kX2_byteAt (l : Launch) (dd : va_G) (cI cZ cR cJ : ClassId) (h0 : Nat) (q1 : Nat) (qd : Nat) (qt : Nat) (U : Nat) (q4 : Nat) (le : Bool) (wl : Nat) (wd : Int32) (D : Nat → Nat) (en : Nat) (i : Nat) (he : en < 32) (hi : i < 16) : Met l yX2_byteAt wsX2_byteAt ({ frames := 0, cells := 0, slots := 0, locals := 0 }) (va_Pc [.ref h0, .int (nI en), .int (nI i)] (qc dd cI cZ cR cJ [(h0, .inr (2, [.ref q1, .ref qd, .ref qt, .int (nI U)])), (q1, .inr (3, [.ref q4, .int (bI le), .int (nI wl), .int wd])), (q4, .inl (cI, 4096, .inl (aN D)))])) (QcRead (nI (D (16 * en + i)))) 0 0 (fun _ => False) := by
  refine mk_met (cc := cX2_byteAt) (maxL := 3) (ret := (some .int)) (by decide) rfl (Nat.le_of_ble_eq_true rfl) ?_
  intro p e s m below meth c hx hb hr hts hown hlocks hml hin hv ls hl
  obtain ⟨hP, hK⟩ := hv
  have hown : s.vm.findClass RX2 = some m.cls := hown
  have hl : lv_has ls 3 [(0, .ref h0), (1, .int (nI en)), (2, .int (nI i))] := hl
  have hf_18 := hts (.fieldLink RX2 18 "RecordSystem$Directory" "store" "LRecordSystem$Disk;") (by decide +kernel)
  have hin_X2 : ∀ w ∈ wsX20, w ∈ wsX2_byteAt := by decide +kernel
  have hin_X3 : ∀ w ∈ wsX30, w ∈ wsX2_byteAt := by decide +kernel
  refine lv_aload_n hx hb dX2_byteAt_0 rfl (lv_at hl 0 rfl) ?_
  refine va_get (D := dd) (ci := 2) (v := .ref q1) (C := RX2) (T := TX2) (N := 4) hx hb hts hin_X2 hown hK.1 hP 0 rfl rfl 0 (by decide) hf_18 (fun _ h9 => h9) rfl dX2_byteAt_1 ?_
  refine va_getN (D := dd) (ci := 3) (v := .ref q4) (C := RX3) (T := TX3) (N := 4) hx hb hts hin_X3 hown hK.1 hP 1 rfl rfl 0 (by decide) (hK.2.use 1 rfl) (fun _ h9 => h9) rfl dX2_byteAt_4 ?_
  refine lv_iload_n hx hb dX2_byteAt_7 rfl (lv_at hl 1 rfl) ?_
  refine lv_bipush (v := nI 16) hx hb dX2_byteAt_8 (by decide) ?_
  refine nr_imul (16 * en) (by omega) hx hb dX2_byteAt_10 ?_
  refine lv_iload_n hx hb dX2_byteAt_11 rfl (lv_at hl 2 rfl) ?_
  refine nr_iadd (16 * en + i) (by omega) hx hb dX2_byteAt_12 ?_
  refine nr_iald (f := D) hx hb hK hP 2 rfl (by omega) (by decide) dX2_byteAt_13 ?_
  have hR : nI (D (16 * en + i)) = nI (D (16 * en + i)) := rfl
  exact W.iret (v := nI (D (16 * en + i))) hx hb hr (fun t ht hW => ⟨by rw [hR], ht⟩) (fun q h => nomatch h) dX2_byteAt_14

set_option maxHeartbeats 4000000 in
set_option maxRecDepth 100000 in
theorem kX2_blockNumber (l : Launch) (dd : va_G) (cI cZ cR cJ : ClassId) (h0 : Nat) (q1 : Nat) (qd : Nat) (qt : Nat) (U : Nat) (q4 : Nat) (le : Bool) (wl : Nat) (wd : Int32) (D : Nat → Nat) (en : Nat) (k : Nat) (he : en < 32) (hk : k < 7) : Met l yX2_blockNumber wsX2_blockNumber ({ frames := 1, cells := 0, slots := 0, locals := 22 }) (va_Pc [.ref h0, .int (nI en), .int (nI k)] (qc dd cI cZ cR cJ [(h0, .inr (2, [.ref q1, .ref qd, .ref qt, .int (nI U)])), (q1, .inr (3, [.ref q4, .int (bI le), .int (nI wl), .int wd])), (q4, .inl (cI, 4096, .inl (aN D)))])) (QcRead (nI (D (16 * en + k + 9)))) 0 0 (fun _ => False) := by
  refine mk_met (cc := cX2_blockNumber) (maxL := 3) (ret := (some .int)) (by decide) rfl (Nat.le_of_ble_eq_true rfl) ?_
  intro p e s m below meth c hx hb hr hts hown hlocks hml hin hv ls hl
  obtain ⟨hP, hK⟩ := hv
  have hown : s.vm.findClass RX2 = some m.cls := hown
  have hl : lv_has ls 3 [(0, .ref h0), (1, .int (nI en)), (2, .int (nI k))] := hl
  refine lv_aload_n hx hb dX2_blockNumber_0 rfl (lv_at hl 0 rfl) ?_
  refine lv_iload_n hx hb dX2_blockNumber_1 rfl (lv_at hl 1 rfl) ?_
  refine lv_bipush (v := nI 9) hx hb dX2_blockNumber_2 (by decide) ?_
  refine lv_iload_n hx hb dX2_blockNumber_4 rfl (lv_at hl 2 rfl) ?_
  refine nr_iadd (k + 9) (by omega) hx hb dX2_blockNumber_5 ?_
  refine cr_i (va_runV (As := [.int (nI en), .int (nI (k + 9))]) (rest := []) ⟨hx, hb, hml, hown, hts⟩ (kX2_byteAt l dd cI cZ cR cJ h0 q1 qd qt U q4 le wl wd D en (k + 9) (by omega) (by omega)) (cwV 2 hts gX2_blockNumber_X2_byteAt rfl rfl rfl (by decide +kernel) ⟨Nat.le_of_ble_eq_true rfl, Nat.le_of_ble_eq_true rfl⟩) (pv_c hK hP 0 rfl (ci := 2) rfl [0, 1, 2] rfl) rfl rfl hl.1 rfl (lv_room (Nat.le_of_ble_eq_true rfl)) dX2_blockNumber_6 ⟨Nat.zero_le _, Nat.zero_le _⟩) ?_
  refine nr_top (b := D (16 * en + k + 9)) (congrArg D (by omega)) ?_
  have hR : nI (D (16 * en + k + 9)) = nI (D (16 * en + k + 9)) := rfl
  exact W.iret (v := nI (D (16 * en + k + 9))) hx hb hr (fun t ht hW => ⟨by rw [hR], ht⟩) (fun q h => nomatch h) dX2_blockNumber_9

set_option maxHeartbeats 4000000 in
set_option maxRecDepth 100000 in
theorem kX2_isFree (l : Launch) (dd : va_G) (cI cZ cR cJ : ClassId) (h0 : Nat) (q1 : Nat) (qd : Nat) (qt : Nat) (U : Nat) (q4 : Nat) (le : Bool) (wl : Nat) (wd : Int32) (D : Nat → Nat) (en : Nat) (he : en < 32) (hDb : ∀ j, D j < 256) : Met l yX2_isFree wsX2_isFree ({ frames := 1, cells := 0, slots := 0, locals := 22 }) (va_Pc [.ref h0, .int (nI en)] (qc dd cI cZ cR cJ [(h0, .inr (2, [.ref q1, .ref qd, .ref qt, .int (nI U)])), (q1, .inr (3, [.ref q4, .int (bI le), .int (nI wl), .int wd])), (q4, .inl (cI, 4096, .inl (aN D)))])) (QcRead (bI (frB D en))) 0 0 (fun _ => False) := by
  refine mk_met (cc := cX2_isFree) (maxL := 2) (ret := (some .boolean)) (by decide) rfl (Nat.le_of_ble_eq_true rfl) ?_
  intro p e s m below meth c hx hb hr hts hown hlocks hml hin hv ls hl
  obtain ⟨hP, hK⟩ := hv
  have hown : s.vm.findClass RX2 = some m.cls := hown
  have hl : lv_has ls 2 [(0, .ref h0), (1, .int (nI en))] := hl
  refine lv_aload_n hx hb dX2_isFree_0 rfl (lv_at hl 0 rfl) ?_
  refine lv_iload_n hx hb dX2_isFree_1 rfl (lv_at hl 1 rfl) ?_
  refine lv_iconst (v := nI 0) hx hb dX2_isFree_2 (by decide) ?_
  refine cr_i (va_runV (As := [.int (nI en), .int (nI 0)]) (rest := []) ⟨hx, hb, hml, hown, hts⟩ (kX2_byteAt l dd cI cZ cR cJ h0 q1 qd qt U q4 le wl wd D en 0 (by omega) (by omega)) (cwV 2 hts gX2_isFree_X2_byteAt rfl rfl rfl (by decide +kernel) ⟨Nat.le_of_ble_eq_true rfl, Nat.le_of_ble_eq_true rfl⟩) (pv_c hK hP 0 rfl (ci := 2) rfl [0, 1, 2] rfl) rfl rfl hl.1 rfl (lv_room (Nat.le_of_ble_eq_true rfl)) dX2_isFree_3 ⟨Nat.zero_le _, Nat.zero_le _⟩) ?_
  refine nr_top (b := D (16 * en)) (congrArg D (by omega)) ?_
  have hv := hDb (16 * en)
  refine lv_bipush (v := nI 16) hx hb dX2_isFree_6 (by decide) ?_
  refine nr_lt (tgt := 15) hx hb (by omega) (by omega) dX2_isFree_8 (by decide) (fun c_8 => ?_) (fun c_8 => ?_)
  · refine lv_iconst (v := nI 0) hx hb dX2_isFree_15 (by decide) ?_
    have hR : nI 0 = bI (frB D en) := bI_zero (by simp [frB]; omega)
    exact W.zret (v := nI 0) hx hb hr (by decide) (fun t ht hW => ⟨by rw [hR], ht⟩) (fun q h => nomatch h) dX2_isFree_16
  · refine lv_iconst (v := nI 1) hx hb dX2_isFree_11 (by decide) ?_
    refine lv_goto (tgt := 16) hx hb dX2_isFree_12 (by decide) ?_
    have hR : nI 1 = bI (frB D en) := bI_one (by simp [frB]; omega)
    exact W.zret (v := nI 1) hx hb hr (by decide) (fun t ht hW => ⟨by rw [hR], ht⟩) (fun q h => nomatch h) dX2_isFree_16

set_option maxHeartbeats 4000000 in
set_option maxRecDepth 100000 in
theorem kX2_isReadOnly (l : Launch) (dd : va_G) (cI cZ cR cJ : ClassId) (h0 : Nat) (q1 : Nat) (qd : Nat) (qt : Nat) (U : Nat) (q4 : Nat) (le : Bool) (wl : Nat) (wd : Int32) (D : Nat → Nat) (en : Nat) (he : en < 32) (hDb : ∀ j, D j < 256) : Met l yX2_isReadOnly wsX2_isReadOnly ({ frames := 1, cells := 0, slots := 0, locals := 22 }) (va_Pc [.ref h0, .int (nI en)] (qc dd cI cZ cR cJ [(h0, .inr (2, [.ref q1, .ref qd, .ref qt, .int (nI U)])), (q1, .inr (3, [.ref q4, .int (bI le), .int (nI wl), .int wd])), (q4, .inl (cI, 4096, .inl (aN D)))])) (QcRead (bI (roB D en))) 0 0 (fun _ => False) := by
  refine mk_met (cc := cX2_isReadOnly) (maxL := 2) (ret := (some .boolean)) (by decide) rfl (Nat.le_of_ble_eq_true rfl) ?_
  intro p e s m below meth c hx hb hr hts hown hlocks hml hin hv ls hl
  obtain ⟨hP, hK⟩ := hv
  have hown : s.vm.findClass RX2 = some m.cls := hown
  have hl : lv_has ls 2 [(0, .ref h0), (1, .int (nI en))] := hl
  refine lv_aload_n hx hb dX2_isReadOnly_0 rfl (lv_at hl 0 rfl) ?_
  refine lv_iload_n hx hb dX2_isReadOnly_1 rfl (lv_at hl 1 rfl) ?_
  refine lv_iconst (v := nI 5) hx hb dX2_isReadOnly_2 (by decide) ?_
  refine cr_i (va_runV (As := [.int (nI en), .int (nI 5)]) (rest := []) ⟨hx, hb, hml, hown, hts⟩ (kX2_byteAt l dd cI cZ cR cJ h0 q1 qd qt U q4 le wl wd D en 5 (by omega) (by omega)) (cwV 2 hts gX2_isReadOnly_X2_byteAt rfl rfl rfl (by decide +kernel) ⟨Nat.le_of_ble_eq_true rfl, Nat.le_of_ble_eq_true rfl⟩) (pv_c hK hP 0 rfl (ci := 2) rfl [0, 1, 2] rfl) rfl rfl hl.1 rfl (lv_room (Nat.le_of_ble_eq_true rfl)) dX2_isReadOnly_3 ⟨Nat.zero_le _, Nat.zero_le _⟩) ?_
  have hv := hDb (16 * en + 5)
  refine lv_sipush (v := nI 128) hx hb dX2_isReadOnly_6 (by decide) ?_
  refine nr_iand128 (((D (16 * en + 5)) / 128 * 128)) (by omega) hx hb (by omega) dX2_isReadOnly_9 ?_
  refine nr_if_eq (tgt := 17) hx hb (by omega) dX2_isReadOnly_10 (by decide) (fun c_10 => ?_) (fun c_10 => ?_)
  · refine lv_iconst (v := nI 0) hx hb dX2_isReadOnly_17 (by decide) ?_
    have hR : nI 0 = bI (roB D en) := bI_zero (by simp [roB]; omega)
    exact W.zret (v := nI 0) hx hb hr (by decide) (fun t ht hW => ⟨by rw [hR], ht⟩) (fun q h => nomatch h) dX2_isReadOnly_18
  · refine lv_iconst (v := nI 1) hx hb dX2_isReadOnly_13 (by decide) ?_
    refine lv_goto (tgt := 18) hx hb dX2_isReadOnly_14 (by decide) ?_
    have hR : nI 1 = bI (roB D en) := bI_one (by simp [roB]; omega)
    exact W.zret (v := nI 1) hx hb hr (by decide) (fun t ht hW => ⟨by rw [hR], ht⟩) (fun q h => nomatch h) dX2_isReadOnly_18

set_option maxHeartbeats 4000000 in
set_option maxRecDepth 100000 in
theorem kX2_fits (l : Launch) (dd : va_G) (cI cZ cR cJ : ClassId) (h0 : Nat) (q1 : Nat) (qd : Nat) (qt : Nat) (U : Nat) (q4 : Nat) (le : Bool) (wl : Nat) (wd : Int32) (D : Nat → Nat) (h5 : Nat) (qw : Nat) (qk : Nat) (op : Bool) (ro : Bool) (st : Nat) (ct : Nat) (pl : Nat) (w : Nat → Nat) (en : Nat) (he : en < 32) (hDb : ∀ j, D j < 256) (hwb : ∀ j, w j < 128) (hUb : U < 16) : Met l yX2_fits wsX2_fits ({ frames := 1, cells := 0, slots := 0, locals := 22 }) (va_Pc [.ref h0, .int (nI en), .ref h5] (qc dd cI cZ cR cJ [(h0, .inr (2, [.ref q1, .ref qd, .ref qt, .int (nI U)])), (q1, .inr (3, [.ref q4, .int (bI le), .int (nI wl), .int wd])), (q4, .inl (cI, 4096, .inl (aN D))), (h5, .inr (1, [.ref qw, .ref qk, .int (bI op), .int (bI ro), .int (nI st), .int (nI ct), .int (nI pl)])), (qw, .inl (cI, 6, .inl (aN w)))])) (QcRead (bI (ftB D U w en))) 0 0 (fun _ => False) := by
  refine mk_met (cc := cX2_fits) (maxL := 5) (ret := (some .boolean)) (by decide) rfl (Nat.le_of_ble_eq_true rfl) ?_
  intro p e s m below meth c hx hb hr hts hown hlocks hml hin hv ls hl
  obtain ⟨hP, hK⟩ := hv
  have hown : s.vm.findClass RX2 = some m.cls := hown
  have hl : lv_has ls 5 [(0, .ref h0), (1, .int (nI en)), (2, .ref h5)] := hl
  have hf_31 := hts (.fieldLink RX2 31 "RecordSystem$Directory" "user" "I") (by decide +kernel)
  have hin_X2 : ∀ w ∈ wsX20, w ∈ wsX2_fits := by decide +kernel
  have hin_X1 : ∀ w ∈ wsX10, w ∈ wsX2_fits := by decide +kernel
  refine lv_aload_n hx hb dX2_fits_0 rfl (lv_at hl 0 rfl) ?_
  refine lv_iload_n hx hb dX2_fits_1 rfl (lv_at hl 1 rfl) ?_
  refine lv_iconst (v := nI 0) hx hb dX2_fits_2 (by decide) ?_
  refine cr_i (va_runV (As := [.int (nI en), .int (nI 0)]) (rest := []) ⟨hx, hb, hml, hown, hts⟩ (kX2_byteAt l dd cI cZ cR cJ h0 q1 qd qt U q4 le wl wd D en 0 (by omega) (by omega)) (cwV 2 hts gX2_fits_X2_byteAt rfl rfl rfl (by decide +kernel) ⟨Nat.le_of_ble_eq_true rfl, Nat.le_of_ble_eq_true rfl⟩) (pv_c hK hP 0 rfl (ci := 2) rfl [0, 1, 2] rfl) rfl rfl hl.1 rfl (lv_room (Nat.le_of_ble_eq_true rfl)) dX2_fits_3 ⟨Nat.zero_le _, Nat.zero_le _⟩) ?_
  refine nr_top (b := D (16 * en)) (congrArg D (by omega)) ?_
  have hv := hDb (16 * en)
  refine lv_aload_n hx hb dX2_fits_6 rfl (lv_at hl 0 rfl) ?_
  refine va_get (D := dd) (ci := 2) (v := .int (nI U)) (C := RX2) (T := TX2) (N := 4) hx hb hts hin_X2 hown hK.1 hP 0 rfl rfl 3 (by decide) hf_31 (fun _ h9 => h9) rfl dX2_fits_7 ?_
  refine nr_eq (tgt := 15) hx hb (by omega) (by omega) dX2_fits_10 (by decide) (fun c_10 => ?_) (fun c_10 => ?_)
  · refine lv_iconst (v := nI 0) hx hb dX2_fits_15 (by decide) ?_
    refine lv_istore_n (lv' := [(3, .int (nI 0)), (0, .ref h0), (1, .int (nI en)), (2, .ref h5)]) hx hb dX2_fits_16 rfl hl (by decide) rfl (fun ls hl => ?_)
    have loop_1 : ∀ (n k : Nat), k ≤ 6 → 6 + 1 ≤ k + n → (D (16 * en) = U ∧ ftA D w en k = true) → ∀ ls : Array Slot, lv_has ls 5 [(3, .int (nI k)), (0, .ref h0), (1, .int (nI en)), (2, .ref h5)] → W p l e (({ frames := 1, cells := 0, slots := 0, locals := 22 } : Room)) s m ([.ref h0, .int (nI en), .ref h5] : List Value).toArray below meth c s.heap [] 0 0 (MQ below (QcRead (bI (ftB D U w en))) ([.ref h0, .int (nI en), .ref h5] : List Value).toArray s 0 0 (fun _ => False)) (F0 m 17 ls []) := by
      intro n
      induction n with
      | zero => intro k h1 h2; exact absurd h2 (by omega)
      | succ n ih =>
        intro k hk_k hn_k hft ls hl
        have ih_2 := ih
        refine lv_iload_n hx hb dX2_fits_17 rfl (lv_at hl 0 rfl) ?_
        refine lv_bipush (v := nI 6) hx hb dX2_fits_18 (by decide) ?_
        refine nr_ge (tgt := 66) hx hb (by omega) (by omega) dX2_fits_20 (by decide) (fun c_20 => ?_) (fun c_20 => ?_)
        · have ek_k : k = 6 := by omega
          subst ek_k
          refine lv_iconst (v := nI 1) hx hb dX2_fits_66 (by decide) ?_
          have hR : nI 1 = bI (ftB D U w en) := bI_one (by simp [ftB, hft.1, hft.2])
          exact W.zret (v := nI 1) hx hb hr (by decide) (fun t ht hW => ⟨by rw [hR], ht⟩) (fun q h => nomatch h) dX2_fits_67
        · refine lv_aload_n hx hb dX2_fits_23 rfl (lv_at hl 1 rfl) ?_
          refine lv_iload_n hx hb dX2_fits_24 rfl (lv_at hl 2 rfl) ?_
          refine lv_iconst (v := nI 1) hx hb dX2_fits_25 (by decide) ?_
          refine lv_iload_n hx hb dX2_fits_26 rfl (lv_at hl 0 rfl) ?_
          refine nr_iadd (k + 1) (by omega) hx hb dX2_fits_27 ?_
          refine cr_i (va_runV (As := [.int (nI en), .int (nI (k + 1))]) (rest := []) ⟨hx, hb, hml, hown, hts⟩ (kX2_byteAt l dd cI cZ cR cJ h0 q1 qd qt U q4 le wl wd D en (k + 1) (by omega) (by omega)) (cwV 2 hts gX2_fits_X2_byteAt rfl rfl rfl (by decide +kernel) ⟨Nat.le_of_ble_eq_true rfl, Nat.le_of_ble_eq_true rfl⟩) (pv_c hK hP 0 rfl (ci := 2) rfl [0, 1, 2] rfl) rfl rfl hl.1 rfl (lv_room (Nat.le_of_ble_eq_true rfl)) dX2_fits_28 ⟨Nat.zero_le _, Nat.zero_le _⟩) ?_
          refine nr_top (b := D (16 * en + k + 1)) (congrArg D (by omega)) ?_
          have hv := hDb (16 * en + k + 1)
          refine lv_bipush (v := nI 127) hx hb dX2_fits_31 (by decide) ?_
          refine nr_iand127 (((D (16 * en + k + 1)) % 128)) (by omega) hx hb (by omega) dX2_fits_33 ?_
          refine lv_istore (lv' := [(4, .int (nI (((D (16 * en + k + 1)) % 128)))), (3, .int (nI k)), (0, .ref h0), (1, .int (nI en)), (2, .ref h5)]) hx hb dX2_fits_34 hl (by decide) rfl (fun ls hl => ?_)
          refine lv_aload_n hx hb dX2_fits_36 rfl (lv_at hl 4 rfl) ?_
          refine va_getN (D := dd) (ci := 1) (v := .ref qw) (C := RX1) (T := TX1) (N := 7) hx hb hts hin_X1 hown hK.1 hP 3 rfl rfl 0 (by decide) (hK.2.use 9 rfl) (fun _ h9 => h9) rfl dX2_fits_37 ?_
          refine lv_iload_n hx hb dX2_fits_40 rfl (lv_at hl 1 rfl) ?_
          refine nr_iald (f := w) hx hb hK hP 4 rfl (by omega) (by decide) dX2_fits_41 ?_
          have hv_3 := hwb k
          refine lv_bipush (v := nI 63) hx hb dX2_fits_42 (by decide) ?_
          refine nr_eq (tgt := 60) hx hb (by omega) (by omega) dX2_fits_44 (by decide) (fun c_44 => ?_) (fun c_44 => ?_)
          · refine lv_iinc (v := nI (k + 1)) (lv' := [(3, .int (nI (k + 1))), (4, .int (nI (((D (16 * en + k + 1)) % 128)))), (0, .ref h0), (1, .int (nI en)), (2, .ref h5)]) hx hb dX2_fits_60 hl (k := 1) rfl (nr_inc _ _ (by omega)) (by decide) rfl (fun ls hl => ?_)
            refine lv_goto (tgt := 17) hx hb dX2_fits_63 (by decide) ?_
            exact ih_2 (k + 1) (by omega) (by omega) ⟨hft.1, by simp [ftA, hft.2, ltB]; omega⟩ ls (lv_sub hl [0, 2, 3, 4] rfl)
          · refine lv_aload_n hx hb dX2_fits_47 rfl (lv_at hl 4 rfl) ?_
            refine va_getN (D := dd) (ci := 1) (v := .ref qw) (C := RX1) (T := TX1) (N := 7) hx hb hts hin_X1 hown hK.1 hP 3 rfl rfl 0 (by decide) (hK.2.use 9 rfl) (fun _ h9 => h9) rfl dX2_fits_48 ?_
            refine lv_iload_n hx hb dX2_fits_51 rfl (lv_at hl 1 rfl) ?_
            refine nr_iald (f := w) hx hb hK hP 4 rfl (by omega) (by decide) dX2_fits_52 ?_
            have hv_4 := hwb k
            refine lv_iload hx hb dX2_fits_53 (lv_at hl 0 rfl) ?_
            refine nr_eq (tgt := 60) hx hb (by omega) (by omega) dX2_fits_55 (by decide) (fun c_55 => ?_) (fun c_55 => ?_)
            · refine lv_iinc (v := nI (k + 1)) (lv' := [(3, .int (nI (k + 1))), (4, .int (nI (((D (16 * en + k + 1)) % 128)))), (0, .ref h0), (1, .int (nI en)), (2, .ref h5)]) hx hb dX2_fits_60 hl (k := 1) rfl (nr_inc _ _ (by omega)) (by decide) rfl (fun ls hl => ?_)
              refine lv_goto (tgt := 17) hx hb dX2_fits_63 (by decide) ?_
              exact ih_2 (k + 1) (by omega) (by omega) ⟨hft.1, by simp [ftA, hft.2, ltB]; omega⟩ ls (lv_sub hl [0, 2, 3, 4] rfl)
            · refine lv_iconst (v := nI 0) hx hb dX2_fits_58 (by decide) ?_
              have hR : nI 0 = bI (ftB D U w en) := bI_zero (by simp [ftB, ftA_no (D := D) (w := w) (e := en) (k := k) (by simp [ltB]; omega) 6 (by omega)])
              exact W.zret (v := nI 0) hx hb hr (by decide) (fun t ht hW => ⟨by rw [hR], ht⟩) (fun q h => nomatch h) dX2_fits_59
    exact loop_1 (6 + 1) 0 (by omega) (by omega) ⟨by omega, rfl⟩ ls (lv_sub hl [0, 1, 2, 3] rfl)
  · refine lv_iconst (v := nI 0) hx hb dX2_fits_13 (by decide) ?_
    have hR : nI 0 = bI (ftB D U w en) := bI_zero (by simp [ftB]; omega)
    exact W.zret (v := nI 0) hx hb hr (by decide) (fun t ht hW => ⟨by rw [hR], ht⟩) (fun q h => nomatch h) dX2_fits_14
