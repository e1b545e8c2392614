set_option maxHeartbeats 4000000 in
set_option maxRecDepth 100000 in
theorem kX4_has (l : Launch) (dd : va_G) (cI cZ cR cJ : ClassId) (h0 : Nat) (q1 : Nat) (q2 : Nat) (q3 : Nat) (qs : Nat) (qh : Nat) (cf : Nat → Option Nat) (ci : Nat) (h5 : Nat) (qw : Nat) (qk : Nat) (op : Bool) (ro : Bool) (st : Nat) (ct : Nat) (pl : Nat) (bl : Nat → Nat) (wh : Nat) (hci : ci < 4) (hcf : cf ci = some h5) (hwh : wh ≤ 10) : Met l yX4_has wsX4_has ({ frames := 2, cells := 0, slots := 0, locals := 42 }) (va_Pc [.ref h0, .int (nI ci), .int (nI wh)] (qc dd cI cZ cR cJ [(h0, .inr (4, [.ref q1, .ref q2, .ref q3, .ref qs, .ref qh])), (qs, .inl (cR, 4, .inr (.inr (.inr (.inr cf))))), (h5, .inr (1, [.ref qw, .ref qk, .int (bI op), .int (bI ro), .int (nI st), .int (nI ct), .int (nI pl)])), (qk, .inl (cI, 7, .inl (aN bl)))])) (QcRead (nI (hasN op st ct pl bl wh))) 0 0 (fun _ => False) := by
  refine mk_met (cc := cX4_has) (maxL := 4) (ret := (some .int)) (by decide) rfl (Nat.le_of_ble_eq_true rfl) ?_
  intro p e s m below meth c hx hb hr hts hown hlocks hml hin hv ls hl
  obtain ⟨hP, hK⟩ := hv
  have hown : s.vm.findClass RX4 = some m.cls := hown
  have hl : lv_has ls 4 [(0, .ref h0), (1, .int (nI ci)), (2, .int (nI wh))] := hl
  have hin_X1 : ∀ w ∈ wsX10, w ∈ wsX4_has := by decide +kernel
  refine lv_aload_n hx hb dX4_has_0 rfl (lv_at hl 0 rfl) ?_
  refine lv_iload_n hx hb dX4_has_1 rfl (lv_at hl 1 rfl) ?_
  refine cr_r (va_runV (As := [.int (nI ci)]) (rest := []) ⟨hx, hb, hml, hown, hts⟩ (kX4_controlAt l dd cI cZ cR cJ h0 q1 q2 q3 qs qh cf ci h5 (by omega) (by omega)) (cwV 1 hts gX4_has_X4_controlAt rfl rfl rfl (by decide +kernel) ⟨Nat.le_of_ble_eq_true rfl, Nat.le_of_ble_eq_true rfl⟩) (pv_c hK hP 0 rfl (ci := 4) rfl [0, 1] rfl) rfl rfl hl.1 rfl (lv_room (Nat.le_of_ble_eq_true rfl)) dX4_has_2 ⟨Nat.zero_le _, Nat.zero_le _⟩) ?_
  refine lv_astore_n (lv' := [(3, .ref h5), (0, .ref h0), (1, .int (nI ci)), (2, .int (nI wh))]) hx hb dX4_has_5 rfl hl (by decide) rfl (fun ls hl => ?_)
  refine lv_iload_n hx hb dX4_has_6 rfl (lv_at hl 3 rfl) ?_
  refine lv_bipush (v := nI 10) hx hb dX4_has_7 (by decide) ?_
  refine cr_v (va_runS (As := [.int (nI wh), .int (nI 10)]) (rest := []) ⟨hx, hb, hml, hown, hts⟩ (kX4_checkArgument l dd cI cZ cR cJ wh 10 (by omega) (by omega)) (va_cwS 2 hts gX4_has_X4_checkArgument rfl rfl rfl (by decide +kernel) ⟨Nat.le_of_ble_eq_true rfl, Nat.le_of_ble_eq_true rfl⟩) (ps_c hK hP [] rfl) rfl rfl hl.1 rfl (lv_room (Nat.le_of_ble_eq_true rfl)) dX4_has_9 ⟨Nat.zero_le _, Nat.zero_le _⟩) ?_
  refine lv_aload_n hx hb dX4_has_12 rfl (lv_at hl 0 rfl) ?_
  refine va_getN (D := dd) (ci := 1) (v := .int (bI op)) (C := RX1) (T := TX1) (N := 7) hx hb hts hin_X1 hown hK.1 hP 2 rfl rfl 2 (by decide) (hK.2.use 12 rfl) (fun _ h9 => h9) rfl dX4_has_13 ?_
  refine br_if_ne (tgt := 21) hx hb dX4_has_16 (by decide) (fun c_16 => ?_) (fun c_16 => ?_)
  · refine lv_iload_n hx hb dX4_has_21 rfl (lv_at hl 3 rfl) ?_
    rcases (show wh = 0 ∨ wh = 1 ∨ wh = 2 ∨ wh = 3 ∨ 4 ≤ wh by omega) with rfl | rfl | rfl | rfl | hsw
    · refine lv_tableIn (x := nI 0) (off := 30) (tgt := 52) hx hb dX4_has_22 (by decide) (by decide) (by decide) (by decide) ?_
      refine lv_iconst (v := nI 1) hx hb dX4_has_52 (by decide) ?_
      have hR : nI 1 = nI (hasN op st ct pl bl 0) := by simp [hasN, c_16]
      exact W.iret (v := nI 1) hx hb hr (fun t ht hW => ⟨congrArg (fun z => Outcome.returned (some (Value.int z))) hR, ht⟩) (fun q h => nomatch h) dX4_has_53
    · refine lv_tableIn (x := nI 1) (off := 32) (tgt := 54) hx hb dX4_has_22 (by decide) (by decide) (by decide) (by decide) ?_
      refine lv_aload_n hx hb dX4_has_54 rfl (lv_at hl 0 rfl) ?_
      refine va_getN (D := dd) (ci := 1) (v := .int (nI st)) (C := RX1) (T := TX1) (N := 7) hx hb hts hin_X1 hown hK.1 hP 2 rfl rfl 4 (by decide) (hK.2.use 15 rfl) (fun _ h9 => h9) rfl dX4_has_55 ?_
      have hR : nI st = nI (hasN op st ct pl bl 1) := by simp [hasN, c_16]
      exact W.iret (v := nI st) hx hb hr (fun t ht hW => ⟨congrArg (fun z => Outcome.returned (some (Value.int z))) hR, ht⟩) (fun q h => nomatch h) dX4_has_58
    · refine lv_tableIn (x := nI 2) (off := 37) (tgt := 59) hx hb dX4_has_22 (by decide) (by decide) (by decide) (by decide) ?_
      refine lv_aload_n hx hb dX4_has_59 rfl (lv_at hl 0 rfl) ?_
      refine va_getN (D := dd) (ci := 1) (v := .int (nI ct)) (C := RX1) (T := TX1) (N := 7) hx hb hts hin_X1 hown hK.1 hP 2 rfl rfl 5 (by decide) (hK.2.use 17 rfl) (fun _ h9 => h9) rfl dX4_has_60 ?_
      have hR : nI ct = nI (hasN op st ct pl bl 2) := by simp [hasN, c_16]
      exact W.iret (v := nI ct) hx hb hr (fun t ht hW => ⟨congrArg (fun z => Outcome.returned (some (Value.int z))) hR, ht⟩) (fun q h => nomatch h) dX4_has_63
    · refine lv_tableIn (x := nI 3) (off := 42) (tgt := 64) hx hb dX4_has_22 (by decide) (by decide) (by decide) (by decide) ?_
      refine lv_aload_n hx hb dX4_has_64 rfl (lv_at hl 0 rfl) ?_
      refine va_getN (D := dd) (ci := 1) (v := .int (nI pl)) (C := RX1) (T := TX1) (N := 7) hx hb hts hin_X1 hown hK.1 hP 2 rfl rfl 6 (by decide) (hK.2.use 18 rfl) (fun _ h9 => h9) rfl dX4_has_65 ?_
      have hR : nI pl = nI (hasN op st ct pl bl 3) := by simp [hasN, c_16]
      exact W.iret (v := nI pl) hx hb hr (fun t ht hW => ⟨congrArg (fun z => Outcome.returned (some (Value.int z))) hR, ht⟩) (fun q h => nomatch h) dX4_has_68
    · refine lv_tableOut (tgt := 69) hx hb dX4_has_22 (Or.inr (by rw [nI_toInt (by omega)]; omega)) (by decide) ?_
      refine lv_aload_n hx hb dX4_has_69 rfl (lv_at hl 0 rfl) ?_
      refine va_getN (D := dd) (ci := 1) (v := .ref qk) (C := RX1) (T := TX1) (N := 7) hx hb hts hin_X1 hown hK.1 hP 2 rfl rfl 1 (by decide) (hK.2.use 11 rfl) (fun _ h9 => h9) rfl dX4_has_70 ?_
      refine lv_iload_n hx hb dX4_has_73 rfl (lv_at hl 3 rfl) ?_
      refine lv_iconst (v := nI 4) hx hb dX4_has_74 (by decide) ?_
      refine nr_isub (wh - 4) (by omega) hx hb (by omega) dX4_has_75 ?_
      refine nr_iald (f := bl) hx hb hK hP 3 rfl (by omega) (by decide) dX4_has_76 ?_
      have hR : nI (bl (wh - 4)) = nI (hasN op st ct pl bl wh) := by simp [hasN, c_16, show ¬ wh = 0 by omega, show ¬ wh = 1 by omega, show ¬ wh = 2 by omega, show ¬ wh = 3 by omega]
      exact W.iret (v := nI (bl (wh - 4))) hx hb hr (fun t ht hW => ⟨congrArg (fun z => Outcome.returned (some (Value.int z))) hR, ht⟩) (fun q h => nomatch h) dX4_has_77
  · refine lv_iconst (v := nI 0) hx hb dX4_has_19 (by decide) ?_
    have hR : nI 0 = nI (hasN op st ct pl bl wh) := by simp [hasN, c_16]
    exact W.iret (v := nI 0) hx hb hr (fun t ht hW => ⟨congrArg (fun z => Outcome.returned (some (Value.int z))) hR, ht⟩) (fun q h => nomatch h) dX4_has_20

set_option maxHeartbeats 4000000 in
set_option maxRecDepth 100000 in
theorem kX4_told (l : Launch) (dd : va_G) (cI cZ cR cJ : ClassId) (h0 : Nat) (q1 : Nat) (q2 : Nat) (q3 : Nat) (qs : Nat) (qh : Nat) (q4 : Nat) (le : Bool) (wl : Nat) (wd : Int32) (D : Nat → Nat) (qd : Nat) (qt : Nat) (U : Nat) (tl : Nat → Nat) (qn : Nat) (T : Nat → Bool) (wh : Nat) (sz : Nat) (hwh : wh ≤ 3) (hDb : ∀ j, D j < 256) : Met l yX4_told wsX4_told ({ frames := 5, cells := 0, slots := 0, locals := 109 }) (va_Pc [.ref h0, .int (nI wh)] (qm dd cI cZ cR cJ sz [(h0, .inr (4, [.ref q1, .ref q2, .ref q3, .ref qs, .ref qh])), (q1, .inr (3, [.ref q4, .int (bI le), .int (nI wl), .int wd])), (q4, .inl (cI, 4096, .inl (aN D))), (q2, .inr (2, [.ref q1, .ref qd, .ref qt, .int (nI U)])), (qt, .inl (cI, 64, .inl (aN tl))), (q3, .inr (0, [.ref qn])), (qn, .inl (cZ, 64, .inl (aB T)))])) (va_Qi (fun (r : Int32) (u : (Nat → Nat)) => r = mTold D T wd wh) (fun u t => qa dd (va_A [(h0, .inr (4, [.ref q1, .ref q2, .ref q3, .ref qs, .ref qh])), (q1, .inr (3, [.ref q4, .int (bI le), .int (nI wl), .int wd])), (q4, .inl (cI, 4096, .inl (aN D))), (q2, .inr (2, [.ref q1, .ref qd, .ref qt, .int (nI U)])), (qt, .inl (cI, 64, .inl (aN tl))), (q3, .inr (0, [.ref qn])), (qn, .inl (cZ, 64, .inl (aB T)))] sz) [(h0, .inr (4, [.ref q1, .ref q2, .ref q3, .ref qs, .ref qh])), (q1, .inr (3, [.ref q4, .int (bI le), .int (nI wl), .int wd])), (q4, .inl (cI, 4096, .inl (aN D))), (q2, .inr (2, [.ref q1, .ref qd, .ref qt, .int (nI U)])), (qt, .inl (cI, 64, .inl (aN u))), (q3, .inr (0, [.ref qn])), (qn, .inl (cZ, 64, .inl (aB T)))] t) (va_A [(h0, .inr (4, [.ref q1, .ref q2, .ref q3, .ref qs, .ref qh])), (q1, .inr (3, [.ref q4, .int (bI le), .int (nI wl), .int wd])), (q4, .inl (cI, 4096, .inl (aN D))), (q2, .inr (2, [.ref q1, .ref qd, .ref qt, .int (nI U)])), (qt, .inl (cI, 64, .inl (aN tl))), (q3, .inr (0, [.ref qn])), (qn, .inl (cZ, 64, .inl (aB T)))] sz)) 0 0 (va_A [(h0, .inr (4, [.ref q1, .ref q2, .ref q3, .ref qs, .ref qh])), (q1, .inr (3, [.ref q4, .int (bI le), .int (nI wl), .int wd])), (q4, .inl (cI, 4096, .inl (aN D))), (q2, .inr (2, [.ref q1, .ref qd, .ref qt, .int (nI U)])), (qt, .inl (cI, 64, .inl (aN tl))), (q3, .inr (0, [.ref qn])), (qn, .inl (cZ, 64, .inl (aB T)))] sz) := by
  refine mk_mut (cc := cX4_told) (maxL := 2) (ret := (some .int)) (Qf := fun A => va_Qi (fun (r : Int32) (u : (Nat → Nat)) => r = mTold D T wd wh) (fun u t => qa dd A [(h0, .inr (4, [.ref q1, .ref q2, .ref q3, .ref qs, .ref qh])), (q1, .inr (3, [.ref q4, .int (bI le), .int (nI wl), .int wd])), (q4, .inl (cI, 4096, .inl (aN D))), (q2, .inr (2, [.ref q1, .ref qd, .ref qt, .int (nI U)])), (qt, .inl (cI, 64, .inl (aN u))), (q3, .inr (0, [.ref qn])), (qn, .inl (cZ, 64, .inl (aB T)))] t) A) (by decide) rfl (Nat.le_of_ble_eq_true rfl) ?_
  intro p e s m below meth c A hx hb hr hts hown hlocks hml hin hP hD hA hS hK ls hl
  have hown : s.vm.findClass RX4 = some m.cls := hown
  have hl : lv_has ls 2 [(0, .ref h0), (1, .int (nI wh))] := hl
  have hf_28 := hts (.fieldLink RX4 28 "RecordSystem" "map" "LRecordSystem$BlockMap;") (by decide +kernel)
  have hin_X4 : ∀ w ∈ wsX40, w ∈ wsX4_told := by decide +kernel
  have hini_X0 := hts (.initialized RX0) (by decide +kernel)
  have him_X0_untaken := hts (.instanceMethod yX0_untaken) (by decide +kernel)
  have hse_X0_untaken := hts (.selects RX0 yX0_untaken yX0_untaken) (by decide +kernel)
  have hf_21 := hts (.fieldLink RX4 21 "RecordSystem" "directory" "LRecordSystem$Directory;") (by decide +kernel)
  have hini_X2 := hts (.initialized RX2) (by decide +kernel)
  have him_X2_blocksToldTwice := hts (.instanceMethod yX2_blocksToldTwice) (by decide +kernel)
  have hse_X2_blocksToldTwice := hts (.selects RX2 yX2_blocksToldTwice yX2_blocksToldTwice) (by decide +kernel)
  have him_X2_freeEntries := hts (.instanceMethod yX2_freeEntries) (by decide +kernel)
  have hse_X2_freeEntries := hts (.selects RX2 yX2_freeEntries yX2_freeEntries) (by decide +kernel)
  have hf_12 := hts (.fieldLink RX4 12 "RecordSystem" "store" "LRecordSystem$Disk;") (by decide +kernel)
  have hin_X3 : ∀ w ∈ wsX30, w ∈ wsX4_told := by decide +kernel
  refine lv_iload_n hx hb dX4_told_0 rfl (lv_at hl 1 rfl) ?_
  refine lv_iconst (v := nI 3) hx hb dX4_told_1 (by decide) ?_
  refine cr_v (va_runS (As := [.int (nI wh), .int (nI 3)]) (rest := []) ⟨hx, hb, hml, hown, hts⟩ (kX4_checkArgument l dd cI cZ cR cJ wh 3 (by omega) (by omega)) (va_cwS 2 hts gX4_told_X4_checkArgument rfl rfl rfl (by decide +kernel) ⟨Nat.le_of_ble_eq_true rfl, Nat.le_of_ble_eq_true rfl⟩) (ps_c hK hP [] rfl) rfl rfl hl.1 rfl (lv_room (Nat.le_of_ble_eq_true rfl)) dX4_told_2 ⟨Nat.zero_le _, Nat.zero_le _⟩) ?_
  refine lv_iload_n hx hb dX4_told_5 rfl (lv_at hl 1 rfl) ?_
  rcases (show wh = 0 ∨ wh = 1 ∨ wh = 2 ∨ 3 ≤ wh by omega) with rfl | rfl | rfl | hsw
  · refine lv_tableIn (x := nI 0) (off := 26) (tgt := 32) hx hb dX4_told_6 (by decide) (by decide) (by decide) (by decide) ?_
    refine lv_aload_n hx hb dX4_told_32 rfl (lv_at hl 0 rfl) ?_
    refine va_get (D := dd) (ci := 4) (v := .ref q3) (C := RX4) (T := TX4) (N := 5) hx hb hts hin_X4 hown hK.1 hP 0 rfl rfl 2 (by decide) hf_28 (fun _ h9 => h9) rfl dX4_told_33 ?_
    refine cr_i (va_runVN (C := RX0) (As := []) (rest := []) ⟨hx, hb, hml, hown, hts⟩ (kX0_untaken l dd cI cZ cR cJ q3 qn T) ⟨(va_cnB 0 hts gX4_told_X0_untaken_n61 rfl rfl rfl (hK.2.at 25 rfl) hini_X0 (by decide +kernel) ⟨Nat.le_of_ble_eq_true rfl, Nat.le_of_ble_eq_true rfl⟩), him_X0_untaken, hse_X0_untaken⟩ (pv_c hK hP 5 rfl (ci := 0) rfl [5, 6] rfl) rfl rfl hl.1 rfl (lv_room (Nat.le_of_ble_eq_true rfl)) dX4_told_36 ⟨Nat.zero_le _, Nat.zero_le _⟩) ?_
    have hP9 := hP.sub (ws' := [(h0, .inr (4, [.ref q1, .ref q2, .ref q3, .ref qs, .ref qh])), (q1, .inr (3, [.ref q4, .int (bI le), .int (nI wl), .int wd])), (q4, .inl (cI, 4096, .inl (aN D))), (q2, .inr (2, [.ref q1, .ref qd, .ref qt, .int (nI U)])), (qt, .inl (cI, 64, .inl (aN tl))), (q3, .inr (0, [.ref qn])), (qn, .inl (cZ, 64, .inl (aB T)))]) [0, 1, 2, 3, 4, 5, 6] rfl
    have hD9 := hD.sub (ws' := [(h0, .inr (4, [.ref q1, .ref q2, .ref q3, .ref qs, .ref qh])), (q1, .inr (3, [.ref q4, .int (bI le), .int (nI wl), .int wd])), (q4, .inl (cI, 4096, .inl (aN D))), (q2, .inr (2, [.ref q1, .ref qd, .ref qt, .int (nI U)])), (qt, .inl (cI, 64, .inl (aN tl))), (q3, .inr (0, [.ref qn])), (qn, .inl (cZ, 64, .inl (aB T)))]) [0, 1, 2, 3, 4, 5, 6] (by decide) rfl
    exact W.iret (v := nI (cnt (ntB T) 64)) hx hb hr (fun t ht hW => ⟨⟨nI (cnt (ntB T) 64), tl, rfl, by simp [mTold], by rw [ht]; exact hP9, hD9⟩, hS.F ht⟩) hS.2.2 dX4_told_39
  · refine lv_tableIn (x := nI 1) (off := 34) (tgt := 40) hx hb dX4_told_6 (by decide) (by decide) (by decide) (by decide) ?_
    refine lv_aload_n hx hb dX4_told_40 rfl (lv_at hl 0 rfl) ?_
    refine va_get (D := dd) (ci := 4) (v := .ref q2) (C := RX4) (T := TX4) (N := 5) hx hb hts hin_X4 hown hK.1 hP 0 rfl rfl 1 (by decide) hf_21 (fun _ h9 => h9) rfl dX4_told_41 ?_
    refine cm_i (wc := [(q2, .inr (2, [.ref q1, .ref qd, .ref qt, .int (nI U)])), (q1, .inr (3, [.ref q4, .int (bI le), .int (nI wl), .int wd])), (q4, .inl (cI, 4096, .inl (aN D))), (qt, .inl (cI, 64, .inl (aN tl)))]) (wr := [(h0, .inr (4, [.ref q1, .ref q2, .ref q3, .ref qs, .ref qh])), (q3, .inr (0, [.ref qn])), (qn, .inl (cZ, 64, .inl (aB T)))]) (w1 := fun u : Unit => [(q2, .inr (2, [.ref q1, .ref qd, .ref qt, .int (nI U)])), (q1, .inr (3, [.ref q4, .int (bI le), .int (nI wl), .int wd])), (q4, .inl (cI, 4096, .inl (aN D))), (qt, .inl (cI, 64, .inl (aN (tlE D (zzN tl) 32))))]) hP hD hS hA [3, 1, 2, 4] [0, 5, 6] rfl rfl (by decide) (by decide) (va_runVN (C := RX2) (As := []) (rest := []) ⟨hx, hb, hml, hown, hts⟩ (kX2_blocksToldTwice l dd cI cZ cR cJ q2 q1 qd qt U q4 le wl wd D tl s.heap.size hDb) ⟨(va_cnB 0 hts gX4_told_X2_blocksToldTwice_n162 rfl rfl rfl (hK.2.at 48 rfl) hini_X2 (by decide +kernel) ⟨Nat.le_of_ble_eq_true rfl, Nat.le_of_ble_eq_true rfl⟩), him_X2_blocksToldTwice, hse_X2_blocksToldTwice⟩ (pv_m hK hP hD 3 rfl (ci := 2) rfl [3, 1, 2, 4] (by decide) rfl rfl) rfl rfl hl.1 rfl (lv_room (Nat.le_of_ble_eq_true rfl)) dX4_told_44 ⟨Nat.zero_le _, Nat.zero_le _⟩) (fun r_1 u9 H locs hw hP hD hS => ?_)
    have hw_2 := hw
    try dsimp only at hw_2
    have hP : va_P dd vwCl [(h0, .inr (4, [.ref q1, .ref q2, .ref q3, .ref qs, .ref qh])), (q3, .inr (0, [.ref qn])), (qn, .inl (cZ, 64, .inl (aB T))), (q2, .inr (2, [.ref q1, .ref qd, .ref qt, .int (nI U)])), (q1, .inr (3, [.ref q4, .int (bI le), .int (nI wl), .int wd])), (q4, .inl (cI, 4096, .inl (aN D))), (qt, .inl (cI, 64, .inl (aN (tlE D (zzN tl) 32))))] H := hP
    have hD : va_D A [(h0, .inr (4, [.ref q1, .ref q2, .ref q3, .ref qs, .ref qh])), (q3, .inr (0, [.ref qn])), (qn, .inl (cZ, 64, .inl (aB T))), (q2, .inr (2, [.ref q1, .ref qd, .ref qt, .int (nI U)])), (q1, .inr (3, [.ref q4, .int (bI le), .int (nI wl), .int wd])), (q4, .inl (cI, 4096, .inl (aN D))), (qt, .inl (cI, 64, .inl (aN (tlE D (zzN tl) 32))))] := hD
    have hP9 := hP.sub (ws' := [(h0, .inr (4, [.ref q1, .ref q2, .ref q3, .ref qs, .ref qh])), (q1, .inr (3, [.ref q4, .int (bI le), .int (nI wl), .int wd])), (q4, .inl (cI, 4096, .inl (aN D))), (q2, .inr (2, [.ref q1, .ref qd, .ref qt, .int (nI U)])), (qt, .inl (cI, 64, .inl (aN (tlE D (zzN tl) 32)))), (q3, .inr (0, [.ref qn])), (qn, .inl (cZ, 64, .inl (aB T)))]) [0, 4, 5, 3, 6, 1, 2] rfl
    have hD9 := hD.sub (ws' := [(h0, .inr (4, [.ref q1, .ref q2, .ref q3, .ref qs, .ref qh])), (q1, .inr (3, [.ref q4, .int (bI le), .int (nI wl), .int wd])), (q4, .inl (cI, 4096, .inl (aN D))), (q2, .inr (2, [.ref q1, .ref qd, .ref qt, .int (nI U)])), (qt, .inl (cI, 64, .inl (aN (tlE D (zzN tl) 32)))), (q3, .inr (0, [.ref qn])), (qn, .inl (cZ, 64, .inl (aB T)))]) [0, 4, 5, 3, 6, 1, 2] (by decide) rfl
    exact W.iret (v := r_1) hx hb hr (fun t ht hW => ⟨⟨r_1, tlE D (zzN tl) 32, rfl, by rw [hw_2]; simp [mTold, told_1], by rw [ht]; exact hP9, hD9⟩, hS.F ht⟩) hS.2.2 dX4_told_47
  · refine lv_tableIn (x := nI 2) (off := 42) (tgt := 48) hx hb dX4_told_6 (by decide) (by decide) (by decide) (by decide) ?_
    refine lv_aload_n hx hb dX4_told_48 rfl (lv_at hl 0 rfl) ?_
    refine va_get (D := dd) (ci := 4) (v := .ref q2) (C := RX4) (T := TX4) (N := 5) hx hb hts hin_X4 hown hK.1 hP 0 rfl rfl 1 (by decide) hf_21 (fun _ h9 => h9) rfl dX4_told_49 ?_
    refine cr_i (va_runVN (C := RX2) (As := []) (rest := []) ⟨hx, hb, hml, hown, hts⟩ (kX2_freeEntries l dd cI cZ cR cJ q2 q1 qd qt U q4 le wl wd D hDb) ⟨(va_cnB 0 hts gX4_told_X2_freeEntries_n165 rfl rfl rfl (hK.2.at 49 rfl) hini_X2 (by decide +kernel) ⟨Nat.le_of_ble_eq_true rfl, Nat.le_of_ble_eq_true rfl⟩), him_X2_freeEntries, hse_X2_freeEntries⟩ (pv_c hK hP 3 rfl (ci := 2) rfl [3, 1, 2] rfl) rfl rfl hl.1 rfl (lv_room (Nat.le_of_ble_eq_true rfl)) dX4_told_52 ⟨Nat.zero_le _, Nat.zero_le _⟩) ?_
    have hP9 := hP.sub (ws' := [(h0, .inr (4, [.ref q1, .ref q2, .ref q3, .ref qs, .ref qh])), (q1, .inr (3, [.ref q4, .int (bI le), .int (nI wl), .int wd])), (q4, .inl (cI, 4096, .inl (aN D))), (q2, .inr (2, [.ref q1, .ref qd, .ref qt, .int (nI U)])), (qt, .inl (cI, 64, .inl (aN tl))), (q3, .inr (0, [.ref qn])), (qn, .inl (cZ, 64, .inl (aB T)))]) [0, 1, 2, 3, 4, 5, 6] rfl
    have hD9 := hD.sub (ws' := [(h0, .inr (4, [.ref q1, .ref q2, .ref q3, .ref qs, .ref qh])), (q1, .inr (3, [.ref q4, .int (bI le), .int (nI wl), .int wd])), (q4, .inl (cI, 4096, .inl (aN D))), (q2, .inr (2, [.ref q1, .ref qd, .ref qt, .int (nI U)])), (qt, .inl (cI, 64, .inl (aN tl))), (q3, .inr (0, [.ref qn])), (qn, .inl (cZ, 64, .inl (aB T)))]) [0, 1, 2, 3, 4, 5, 6] (by decide) rfl
    exact W.iret (v := nI (cnt (frB D) 32)) hx hb hr (fun t ht hW => ⟨⟨nI (cnt (frB D) 32), tl, rfl, by simp [mTold], by rw [ht]; exact hP9, hD9⟩, hS.F ht⟩) hS.2.2 dX4_told_55
  · refine lv_tableOut (tgt := 56) hx hb dX4_told_6 (Or.inr (by rw [nI_toInt (by omega)]; omega)) (by decide) ?_
    refine lv_aload_n hx hb dX4_told_56 rfl (lv_at hl 0 rfl) ?_
    refine va_get (D := dd) (ci := 4) (v := .ref q1) (C := RX4) (T := TX4) (N := 5) hx hb hts hin_X4 hown hK.1 hP 0 rfl rfl 0 (by decide) hf_12 (fun _ h9 => h9) rfl dX4_told_57 ?_
    refine va_getN (D := dd) (ci := 3) (v := .int wd) (C := RX3) (T := TX3) (N := 4) hx hb hts hin_X3 hown hK.1 hP 1 rfl rfl 3 (by decide) (hK.2.use 3 rfl) (fun _ h9 => h9) rfl dX4_told_60 ?_
    have hP9 := hP.sub (ws' := [(h0, .inr (4, [.ref q1, .ref q2, .ref q3, .ref qs, .ref qh])), (q1, .inr (3, [.ref q4, .int (bI le), .int (nI wl), .int wd])), (q4, .inl (cI, 4096, .inl (aN D))), (q2, .inr (2, [.ref q1, .ref qd, .ref qt, .int (nI U)])), (qt, .inl (cI, 64, .inl (aN tl))), (q3, .inr (0, [.ref qn])), (qn, .inl (cZ, 64, .inl (aB T)))]) [0, 1, 2, 3, 4, 5, 6] rfl
    have hD9 := hD.sub (ws' := [(h0, .inr (4, [.ref q1, .ref q2, .ref q3, .ref qs, .ref qh])), (q1, .inr (3, [.ref q4, .int (bI le), .int (nI wl), .int wd])), (q4, .inl (cI, 4096, .inl (aN D))), (q2, .inr (2, [.ref q1, .ref qd, .ref qt, .int (nI U)])), (qt, .inl (cI, 64, .inl (aN tl))), (q3, .inr (0, [.ref qn])), (qn, .inl (cZ, 64, .inl (aB T)))]) [0, 1, 2, 3, 4, 5, 6] (by decide) rfl
    exact W.iret (v := wd) hx hb hr (fun t ht hW => ⟨⟨wd, tl, rfl, by simp [mTold, show ¬ wh = 0 by omega, show ¬ wh = 1 by omega, show ¬ wh = 2 by omega], by rw [ht]; exact hP9, hD9⟩, hS.F ht⟩) hS.2.2 dX4_told_63

set_option maxHeartbeats 4000000 in
set_option maxRecDepth 100000 in
theorem kX4_login (l : Launch) (dd : va_G) (cI cZ cR cJ : ClassId) (h0 : Nat) (q1 : Nat) (q2 : Nat) (q3 : Nat) (qs : Nat) (qh : Nat) (cf : Nat → Option Nat) (q4 : Nat) (le : Bool) (wl : Nat) (wd : Int32) (D : Nat → Nat) (qd : Nat) (qt : Nat) (U : Nat) (qn : Nat) (T : Nat → Bool) (x0 : Nat) (x1 : Nat) (x2 : Nat) (x3 : Nat) (w0 : Nat) (k0 : Nat) (o0 : Bool) (r0 : Bool) (s0 : Nat) (n0 : Nat) (p0 : Nat) (w1 : Nat) (k1 : Nat) (o1 : Bool) (r1 : Bool) (s1 : Nat) (n1 : Nat) (p1 : Nat) (w2 : Nat) (k2 : Nat) (o2 : Bool) (r2 : Bool) (s2 : Nat) (n2 : Nat) (p2 : Nat) (w3 : Nat) (k3 : Nat) (o3 : Bool) (r3 : Bool) (s3 : Nat) (n3 : Nat) (p3 : Nat) (V : Nat) (sz : Nat) (hV : V ≤ 15) (hDb : ∀ j, D j < 256) (hc0 : cf 0 = some x0) (hc1 : cf 1 = some x1) (hc2 : cf 2 = some x2) (hc3 : cf 3 = some x3) : Met l yX4_login wsX4_login ({ frames := 4, cells := 0, slots := 0, locals := 87 }) (va_Pc [.ref h0, .int (nI V)] (qm dd cI cZ cR cJ sz [(h0, .inr (4, [.ref q1, .ref q2, .ref q3, .ref qs, .ref qh])), (qs, .inl (cR, 4, .inr (.inr (.inr (.inr cf))))), (q1, .inr (3, [.ref q4, .int (bI le), .int (nI wl), .int wd])), (q4, .inl (cI, 4096, .inl (aN D))), (q2, .inr (2, [.ref q1, .ref qd, .ref qt, .int (nI U)])), (q3, .inr (0, [.ref qn])), (qn, .inl (cZ, 64, .inl (aB T))), (x0, .inr (1, [.ref w0, .ref k0, .int (bI o0), .int (bI r0), .int (nI s0), .int (nI n0), .int (nI p0)])), (x1, .inr (1, [.ref w1, .ref k1, .int (bI o1), .int (bI r1), .int (nI s1), .int (nI n1), .int (nI p1)])), (x2, .inr (1, [.ref w2, .ref k2, .int (bI o2), .int (bI r2), .int (nI s2), .int (nI n2), .int (nI p2)])), (x3, .inr (1, [.ref w3, .ref k3, .int (bI o3), .int (bI r3), .int (nI s3), .int (nI n3), .int (nI p3)]))])) (va_Qi (fun (r : Int32) (u : Unit) => r = nI (cnt (ntB (tkE D (clT T) 32)) 64)) (fun u t => qa dd (va_A [(h0, .inr (4, [.ref q1, .ref q2, .ref q3, .ref qs, .ref qh])), (qs, .inl (cR, 4, .inr (.inr (.inr (.inr cf))))), (q1, .inr (3, [.ref q4, .int (bI le), .int (nI wl), .int wd])), (q4, .inl (cI, 4096, .inl (aN D))), (q2, .inr (2, [.ref q1, .ref qd, .ref qt, .int (nI U)])), (q3, .inr (0, [.ref qn])), (qn, .inl (cZ, 64, .inl (aB T))), (x0, .inr (1, [.ref w0, .ref k0, .int (bI o0), .int (bI r0), .int (nI s0), .int (nI n0), .int (nI p0)])), (x1, .inr (1, [.ref w1, .ref k1, .int (bI o1), .int (bI r1), .int (nI s1), .int (nI n1), .int (nI p1)])), (x2, .inr (1, [.ref w2, .ref k2, .int (bI o2), .int (bI r2), .int (nI s2), .int (nI n2), .int (nI p2)])), (x3, .inr (1, [.ref w3, .ref k3, .int (bI o3), .int (bI r3), .int (nI s3), .int (nI n3), .int (nI p3)]))] sz) [(h0, .inr (4, [.ref q1, .ref q2, .ref q3, .ref qs, .ref qh])), (qs, .inl (cR, 4, .inr (.inr (.inr (.inr cf))))), (q1, .inr (3, [.ref q4, .int (bI true), .int (nI wl), .int (nI 0)])), (q4, .inl (cI, 4096, .inl (aN D))), (q2, .inr (2, [.ref q1, .ref qd, .ref qt, .int (nI V)])), (q3, .inr (0, [.ref qn])), (qn, .inl (cZ, 64, .inl (aB (tkE D (clT T) 32)))), (x0, .inr (1, [.ref w0, .ref k0, .int (bI false), .int (bI r0), .int (nI s0), .int (nI n0), .int (nI p0)])), (x1, .inr (1, [.ref w1, .ref k1, .int (bI false), .int (bI r1), .int (nI s1), .int (nI n1), .int (nI p1)])), (x2, .inr (1, [.ref w2, .ref k2, .int (bI false), .int (bI r2), .int (nI s2), .int (nI n2), .int (nI p2)])), (x3, .inr (1, [.ref w3, .ref k3, .int (bI false), .int (bI r3), .int (nI s3), .int (nI n3), .int (nI p3)]))] t) (va_A [(h0, .inr (4, [.ref q1, .ref q2, .ref q3, .ref qs, .ref qh])), (qs, .inl (cR, 4, .inr (.inr (.inr (.inr cf))))), (q1, .inr (3, [.ref q4, .int (bI le), .int (nI wl), .int wd])), (q4, .inl (cI, 4096, .inl (aN D))), (q2, .inr (2, [.ref q1, .ref qd, .ref qt, .int (nI U)])), (q3, .inr (0, [.ref qn])), (qn, .inl (cZ, 64, .inl (aB T))), (x0, .inr (1, [.ref w0, .ref k0, .int (bI o0), .int (bI r0), .int (nI s0), .int (nI n0), .int (nI p0)])), (x1, .inr (1, [.ref w1, .ref k1, .int (bI o1), .int (bI r1), .int (nI s1), .int (nI n1), .int (nI p1)])), (x2, .inr (1, [.ref w2, .ref k2, .int (bI o2), .int (bI r2), .int (nI s2), .int (nI n2), .int (nI p2)])), (x3, .inr (1, [.ref w3, .ref k3, .int (bI o3), .int (bI r3), .int (nI s3), .int (nI n3), .int (nI p3)]))] sz)) 0 0 (va_A [(h0, .inr (4, [.ref q1, .ref q2, .ref q3, .ref qs, .ref qh])), (qs, .inl (cR, 4, .inr (.inr (.inr (.inr cf))))), (q1, .inr (3, [.ref q4, .int (bI le), .int (nI wl), .int wd])), (q4, .inl (cI, 4096, .inl (aN D))), (q2, .inr (2, [.ref q1, .ref qd, .ref qt, .int (nI U)])), (q3, .inr (0, [.ref qn])), (qn, .inl (cZ, 64, .inl (aB T))), (x0, .inr (1, [.ref w0, .ref k0, .int (bI o0), .int (bI r0), .int (nI s0), .int (nI n0), .int (nI p0)])), (x1, .inr (1, [.ref w1, .ref k1, .int (bI o1), .int (bI r1), .int (nI s1), .int (nI n1), .int (nI p1)])), (x2, .inr (1, [.ref w2, .ref k2, .int (bI o2), .int (bI r2), .int (nI s2), .int (nI n2), .int (nI p2)])), (x3, .inr (1, [.ref w3, .ref k3, .int (bI o3), .int (bI r3), .int (nI s3), .int (nI n3), .int (nI p3)]))] sz) := by
  refine mk_mut (cc := cX4_login) (maxL := 3) (ret := (some .int)) (Qf := fun A => va_Qi (fun (r : Int32) (u : Unit) => r = nI (cnt (ntB (tkE D (clT T) 32)) 64)) (fun u t => qa dd A [(h0, .inr (4, [.ref q1, .ref q2, .ref q3, .ref qs, .ref qh])), (qs, .inl (cR, 4, .inr (.inr (.inr (.inr cf))))), (q1, .inr (3, [.ref q4, .int (bI true), .int (nI wl), .int (nI 0)])), (q4, .inl (cI, 4096, .inl (aN D))), (q2, .inr (2, [.ref q1, .ref qd, .ref qt, .int (nI V)])), (q3, .inr (0, [.ref qn])), (qn, .inl (cZ, 64, .inl (aB (tkE D (clT T) 32)))), (x0, .inr (1, [.ref w0, .ref k0, .int (bI false), .int (bI r0), .int (nI s0), .int (nI n0), .int (nI p0)])), (x1, .inr (1, [.ref w1, .ref k1, .int (bI false), .int (bI r1), .int (nI s1), .int (nI n1), .int (nI p1)])), (x2, .inr (1, [.ref w2, .ref k2, .int (bI false), .int (bI r2), .int (nI s2), .int (nI n2), .int (nI p2)])), (x3, .inr (1, [.ref w3, .ref k3, .int (bI false), .int (bI r3), .int (nI s3), .int (nI n3), .int (nI p3)]))] t) A) (by decide) rfl (Nat.le_of_ble_eq_true rfl) ?_
  intro p e s m below meth c A hx hb hr hts hown hlocks hml hin hP hD hA hS hK ls hl
  have hown : s.vm.findClass RX4 = some m.cls := hown
  have hl : lv_has ls 3 [(0, .ref h0), (1, .int (nI V))] := hl
  have hf_12 := hts (.fieldLink RX4 12 "RecordSystem" "store" "LRecordSystem$Disk;") (by decide +kernel)
  have hin_X4 : ∀ w ∈ wsX40, w ∈ wsX4_login := by decide +kernel
  have hini_X3 := hts (.initialized RX3) (by decide +kernel)
  have him_X3_lastForEver := hts (.instanceMethod yX3_lastForEver) (by decide +kernel)
  have hse_X3_lastForEver := hts (.selects RX3 yX3_lastForEver yX3_lastForEver) (by decide +kernel)
  have hf_21 := hts (.fieldLink RX4 21 "RecordSystem" "directory" "LRecordSystem$Directory;") (by decide +kernel)
  have hin_X2 : ∀ w ∈ wsX20, w ∈ wsX4_login := by decide +kernel
  have hf_34 := hts (.fieldLink RX4 34 "RecordSystem" "controls" "[LRecordSystem$Control;") (by decide +kernel)
  have hin_X1 : ∀ w ∈ wsX10, w ∈ wsX4_login := by decide +kernel
  have hf_28 := hts (.fieldLink RX4 28 "RecordSystem" "map" "LRecordSystem$BlockMap;") (by decide +kernel)
  have hini_X0 := hts (.initialized RX0) (by decide +kernel)
  have him_X0_untaken := hts (.instanceMethod yX0_untaken) (by decide +kernel)
  have hse_X0_untaken := hts (.selects RX0 yX0_untaken yX0_untaken) (by decide +kernel)
  refine lv_iload_n hx hb dX4_login_0 rfl (lv_at hl 1 rfl) ?_
  refine lv_bipush (v := nI 15) hx hb dX4_login_1 (by decide) ?_
  refine cr_v (va_runS (As := [.int (nI V), .int (nI 15)]) (rest := []) ⟨hx, hb, hml, hown, hts⟩ (kX4_checkArgument l dd cI cZ cR cJ V 15 (by omega) (by omega)) (va_cwS 2 hts gX4_login_X4_checkArgument rfl rfl rfl (by decide +kernel) ⟨Nat.le_of_ble_eq_true rfl, Nat.le_of_ble_eq_true rfl⟩) (ps_c hK hP [] rfl) rfl rfl hl.1 rfl (lv_room (Nat.le_of_ble_eq_true rfl)) dX4_login_3 ⟨Nat.zero_le _, Nat.zero_le _⟩) ?_
  refine lv_aload_n hx hb dX4_login_6 rfl (lv_at hl 0 rfl) ?_
  refine va_get (D := dd) (ci := 4) (v := .ref q1) (C := RX4) (T := TX4) (N := 5) hx hb hts hin_X4 hown hK.1 hP 0 rfl rfl 0 (by decide) hf_12 (fun _ h9 => h9) rfl dX4_login_7 ?_
  refine cm_v (wc := [(q1, .inr (3, [.ref q4, .int (bI le), .int (nI wl), .int wd]))]) (wr := [(h0, .inr (4, [.ref q1, .ref q2, .ref q3, .ref qs, .ref qh])), (qs, .inl (cR, 4, .inr (.inr (.inr (.inr cf))))), (q4, .inl (cI, 4096, .inl (aN D))), (q2, .inr (2, [.ref q1, .ref qd, .ref qt, .int (nI U)])), (q3, .inr (0, [.ref qn])), (qn, .inl (cZ, 64, .inl (aB T))), (x0, .inr (1, [.ref w0, .ref k0, .int (bI o0), .int (bI r0), .int (nI s0), .int (nI n0), .int (nI p0)])), (x1, .inr (1, [.ref w1, .ref k1, .int (bI o1), .int (bI r1), .int (nI s1), .int (nI n1), .int (nI p1)])), (x2, .inr (1, [.ref w2, .ref k2, .int (bI o2), .int (bI r2), .int (nI s2), .int (nI n2), .int (nI p2)])), (x3, .inr (1, [.ref w3, .ref k3, .int (bI o3), .int (bI r3), .int (nI s3), .int (nI n3), .int (nI p3)]))]) (w1 := fun u : Unit => [(q1, .inr (3, [.ref q4, .int (bI true), .int (nI wl), .int (nI 0)]))]) hP hD hS hA [2] [0, 1, 3, 4, 5, 6, 7, 8, 9, 10] rfl rfl (by decide) (by decide) (va_runVN (C := RX3) (As := []) (rest := []) ⟨hx, hb, hml, hown, hts⟩ (kX3_lastForEver l dd cI cZ cR cJ q1 q4 le wl wd s.heap.size) ⟨(va_cnB 0 hts gX4_login_X3_lastForEver_n47 rfl rfl rfl (hK.2.at 20 rfl) hini_X3 (by decide +kernel) ⟨Nat.le_of_ble_eq_true rfl, Nat.le_of_ble_eq_true rfl⟩), him_X3_lastForEver, hse_X3_lastForEver⟩ (pv_m hK hP hD 2 rfl (ci := 3) rfl [2] (by decide) rfl rfl) rfl rfl hl.1 rfl (lv_room (Nat.le_of_ble_eq_true rfl)) dX4_login_10 ⟨Nat.zero_le _, Nat.zero_le _⟩) (fun u9 H locs hw hP hD hS => ?_)
  have hw_2 := hw
  try dsimp only at hw_2
  have hP : va_P dd vwCl [(h0, .inr (4, [.ref q1, .ref q2, .ref q3, .ref qs, .ref qh])), (qs, .inl (cR, 4, .inr (.inr (.inr (.inr cf))))), (q4, .inl (cI, 4096, .inl (aN D))), (q2, .inr (2, [.ref q1, .ref qd, .ref qt, .int (nI U)])), (q3, .inr (0, [.ref qn])), (qn, .inl (cZ, 64, .inl (aB T))), (x0, .inr (1, [.ref w0, .ref k0, .int (bI o0), .int (bI r0), .int (nI s0), .int (nI n0), .int (nI p0)])), (x1, .inr (1, [.ref w1, .ref k1, .int (bI o1), .int (bI r1), .int (nI s1), .int (nI n1), .int (nI p1)])), (x2, .inr (1, [.ref w2, .ref k2, .int (bI o2), .int (bI r2), .int (nI s2), .int (nI n2), .int (nI p2)])), (x3, .inr (1, [.ref w3, .ref k3, .int (bI o3), .int (bI r3), .int (nI s3), .int (nI n3), .int (nI p3)])), (q1, .inr (3, [.ref q4, .int (bI true), .int (nI wl), .int (nI 0)]))] H := hP
  have hD : va_D A [(h0, .inr (4, [.ref q1, .ref q2, .ref q3, .ref qs, .ref qh])), (qs, .inl (cR, 4, .inr (.inr (.inr (.inr cf))))), (q4, .inl (cI, 4096, .inl (aN D))), (q2, .inr (2, [.ref q1, .ref qd, .ref qt, .int (nI U)])), (q3, .inr (0, [.ref qn])), (qn, .inl (cZ, 64, .inl (aB T))), (x0, .inr (1, [.ref w0, .ref k0, .int (bI o0), .int (bI r0), .int (nI s0), .int (nI n0), .int (nI p0)])), (x1, .inr (1, [.ref w1, .ref k1, .int (bI o1), .int (bI r1), .int (nI s1), .int (nI n1), .int (nI p1)])), (x2, .inr (1, [.ref w2, .ref k2, .int (bI o2), .int (bI r2), .int (nI s2), .int (nI n2), .int (nI p2)])), (x3, .inr (1, [.ref w3, .ref k3, .int (bI o3), .int (bI r3), .int (nI s3), .int (nI n3), .int (nI p3)])), (q1, .inr (3, [.ref q4, .int (bI true), .int (nI wl), .int (nI 0)]))] := hD
  refine lv_aload_n hx hb dX4_login_13 rfl (lv_at hl 0 rfl) ?_
  refine va_get (D := dd) (ci := 4) (v := .ref q2) (C := RX4) (T := TX4) (N := 5) hx hb hts hin_X4 hown hK.1 hP 0 rfl rfl 1 (by decide) hf_21 (fun _ h9 => h9) rfl dX4_login_14 ?_
  refine lv_iload_n hx hb dX4_login_17 rfl (lv_at hl 1 rfl) ?_
  refine va_putN (D := dd) (ci := 2) (v := .int (nI V)) (ty := .int) (C := RX2) (T := TX2) (N := 4) hx hb hts hin_X2 tyX2 tyX2_ok nmX2 hown hK.1 hP hD hS 3 rfl rfl 3 (by decide) (hK.2.use 5 rfl) (fun _ h9 => h9) rfl (by decide +kernel) rfl rfl (Nat.le_of_ble_eq_true rfl) dX4_login_18 (fun H locs hP hD hS => ?_)
  have hP : va_P dd vwCl [(h0, .inr (4, [.ref q1, .ref q2, .ref q3, .ref qs, .ref qh])), (qs, .inl (cR, 4, .inr (.inr (.inr (.inr cf))))), (q4, .inl (cI, 4096, .inl (aN D))), (q2, .inr (2, [.ref q1, .ref qd, .ref qt, .int (nI V)])), (q3, .inr (0, [.ref qn])), (qn, .inl (cZ, 64, .inl (aB T))), (x0, .inr (1, [.ref w0, .ref k0, .int (bI o0), .int (bI r0), .int (nI s0), .int (nI n0), .int (nI p0)])), (x1, .inr (1, [.ref w1, .ref k1, .int (bI o1), .int (bI r1), .int (nI s1), .int (nI n1), .int (nI p1)])), (x2, .inr (1, [.ref w2, .ref k2, .int (bI o2), .int (bI r2), .int (nI s2), .int (nI n2), .int (nI p2)])), (x3, .inr (1, [.ref w3, .ref k3, .int (bI o3), .int (bI r3), .int (nI s3), .int (nI n3), .int (nI p3)])), (q1, .inr (3, [.ref q4, .int (bI true), .int (nI wl), .int (nI 0)]))] H := hP
  have hD : va_D A [(h0, .inr (4, [.ref q1, .ref q2, .ref q3, .ref qs, .ref qh])), (qs, .inl (cR, 4, .inr (.inr (.inr (.inr cf))))), (q4, .inl (cI, 4096, .inl (aN D))), (q2, .inr (2, [.ref q1, .ref qd, .ref qt, .int (nI V)])), (q3, .inr (0, [.ref qn])), (qn, .inl (cZ, 64, .inl (aB T))), (x0, .inr (1, [.ref w0, .ref k0, .int (bI o0), .int (bI r0), .int (nI s0), .int (nI n0), .int (nI p0)])), (x1, .inr (1, [.ref w1, .ref k1, .int (bI o1), .int (bI r1), .int (nI s1), .int (nI n1), .int (nI p1)])), (x2, .inr (1, [.ref w2, .ref k2, .int (bI o2), .int (bI r2), .int (nI s2), .int (nI n2), .int (nI p2)])), (x3, .inr (1, [.ref w3, .ref k3, .int (bI o3), .int (bI r3), .int (nI s3), .int (nI n3), .int (nI p3)])), (q1, .inr (3, [.ref q4, .int (bI true), .int (nI wl), .int (nI 0)]))] := hD
  refine lv_iconst (v := nI 0) hx hb dX4_login_21 (by decide) ?_
  refine lv_istore_n (lv' := [(2, .int (nI 0)), (0, .ref h0), (1, .int (nI V))]) hx hb dX4_login_22 rfl hl (by decide) rfl (fun ls hl => ?_)
  refine lv_iload_n hx hb dX4_login_23 rfl (lv_at hl 0 rfl) ?_
  refine lv_iconst (v := nI 4) hx hb dX4_login_24 (by decide) ?_
  refine nr_ge (tgt := 44) hx hb (by omega) (by omega) dX4_login_25 (by decide) (fun c_25 => absurd c_25 (by omega)) (fun c_25 => ?_)
  refine lv_aload_n hx hb dX4_login_28 rfl (lv_at hl 1 rfl) ?_
  refine va_get (D := dd) (ci := 4) (v := .ref qs) (C := RX4) (T := TX4) (N := 5) hx hb hts hin_X4 hown hK.1 hP 0 rfl rfl 3 (by decide) hf_34 (fun _ h9 => h9) rfl dX4_login_29 ?_
  refine lv_iload_n hx hb dX4_login_32 rfl (lv_at hl 0 rfl) ?_
  refine va_aldq hx hb hK.1 hP 1 2 rfl rfl (vp_in_nI (by omega) (by decide)) dX4_login_33 ?_
  rw [nI_clamp (by omega), hc0]
  refine W.eq (g2 := F0 m 34 ls [.ref x0]) rfl ?_
  refine lv_iconst (v := nI 0) hx hb dX4_login_34 (by decide) ?_
  refine va_putN (D := dd) (ci := 1) (v := .int (nI 0)) (ty := .boolean) (C := RX1) (T := TX1) (N := 7) hx hb hts hin_X1 tyX1 tyX1_ok nmX1 hown hK.1 hP hD hS 6 rfl rfl 2 (by decide) (hK.2.use 12 rfl) (fun _ h9 => h9) rfl (by decide +kernel) rfl rfl (Nat.le_of_ble_eq_true rfl) dX4_login_35 (fun H locs hP hD hS => ?_)
  have hP : va_P dd vwCl [(h0, .inr (4, [.ref q1, .ref q2, .ref q3, .ref qs, .ref qh])), (qs, .inl (cR, 4, .inr (.inr (.inr (.inr cf))))), (q4, .inl (cI, 4096, .inl (aN D))), (q2, .inr (2, [.ref q1, .ref qd, .ref qt, .int (nI V)])), (q3, .inr (0, [.ref qn])), (qn, .inl (cZ, 64, .inl (aB T))), (x0, .inr (1, [.ref w0, .ref k0, .int (bI false), .int (bI r0), .int (nI s0), .int (nI n0), .int (nI p0)])), (x1, .inr (1, [.ref w1, .ref k1, .int (bI o1), .int (bI r1), .int (nI s1), .int (nI n1), .int (nI p1)])), (x2, .inr (1, [.ref w2, .ref k2, .int (bI o2), .int (bI r2), .int (nI s2), .int (nI n2), .int (nI p2)])), (x3, .inr (1, [.ref w3, .ref k3, .int (bI o3), .int (bI r3), .int (nI s3), .int (nI n3), .int (nI p3)])), (q1, .inr (3, [.ref q4, .int (bI true), .int (nI wl), .int (nI 0)]))] H := hP
  have hD : va_D A [(h0, .inr (4, [.ref q1, .ref q2, .ref q3, .ref qs, .ref qh])), (qs, .inl (cR, 4, .inr (.inr (.inr (.inr cf))))), (q4, .inl (cI, 4096, .inl (aN D))), (q2, .inr (2, [.ref q1, .ref qd, .ref qt, .int (nI V)])), (q3, .inr (0, [.ref qn])), (qn, .inl (cZ, 64, .inl (aB T))), (x0, .inr (1, [.ref w0, .ref k0, .int (bI false), .int (bI r0), .int (nI s0), .int (nI n0), .int (nI p0)])), (x1, .inr (1, [.ref w1, .ref k1, .int (bI o1), .int (bI r1), .int (nI s1), .int (nI n1), .int (nI p1)])), (x2, .inr (1, [.ref w2, .ref k2, .int (bI o2), .int (bI r2), .int (nI s2), .int (nI n2), .int (nI p2)])), (x3, .inr (1, [.ref w3, .ref k3, .int (bI o3), .int (bI r3), .int (nI s3), .int (nI n3), .int (nI p3)])), (q1, .inr (3, [.ref q4, .int (bI true), .int (nI wl), .int (nI 0)]))] := hD
  refine lv_iinc (v := nI 1) (lv' := [(2, .int (nI 1)), (0, .ref h0), (1, .int (nI V))]) hx hb dX4_login_38 hl (k := 0) rfl (nr_inc _ _ (by omega)) (by decide) rfl (fun ls hl => ?_)
  refine lv_goto (tgt := 23) hx hb dX4_login_41 (by decide) ?_
  refine lv_iload_n hx hb dX4_login_23 rfl (lv_at hl 0 rfl) ?_
  refine lv_iconst (v := nI 4) hx hb dX4_login_24 (by decide) ?_
  refine nr_ge (tgt := 44) hx hb (by omega) (by omega) dX4_login_25 (by decide) (fun c_25 => absurd c_25 (by omega)) (fun c_25 => ?_)
  refine lv_aload_n hx hb dX4_login_28 rfl (lv_at hl 1 rfl) ?_
  refine va_get (D := dd) (ci := 4) (v := .ref qs) (C := RX4) (T := TX4) (N := 5) hx hb hts hin_X4 hown hK.1 hP 0 rfl rfl 3 (by decide) hf_34 (fun _ h9 => h9) rfl dX4_login_29 ?_
  refine lv_iload_n hx hb dX4_login_32 rfl (lv_at hl 0 rfl) ?_
  refine va_aldq hx hb hK.1 hP 1 2 rfl rfl (vp_in_nI (by omega) (by decide)) dX4_login_33 ?_
  rw [nI_clamp (by omega), hc1]
  refine W.eq (g2 := F0 m 34 ls [.ref x1]) rfl ?_
  refine lv_iconst (v := nI 0) hx hb dX4_login_34 (by decide) ?_
  refine va_putN (D := dd) (ci := 1) (v := .int (nI 0)) (ty := .boolean) (C := RX1) (T := TX1) (N := 7) hx hb hts hin_X1 tyX1 tyX1_ok nmX1 hown hK.1 hP hD hS 7 rfl rfl 2 (by decide) (hK.2.use 12 rfl) (fun _ h9 => h9) rfl (by decide +kernel) rfl rfl (Nat.le_of_ble_eq_true rfl) dX4_login_35 (fun H locs hP hD hS => ?_)
  have hP : va_P dd vwCl [(h0, .inr (4, [.ref q1, .ref q2, .ref q3, .ref qs, .ref qh])), (qs, .inl (cR, 4, .inr (.inr (.inr (.inr cf))))), (q4, .inl (cI, 4096, .inl (aN D))), (q2, .inr (2, [.ref q1, .ref qd, .ref qt, .int (nI V)])), (q3, .inr (0, [.ref qn])), (qn, .inl (cZ, 64, .inl (aB T))), (x0, .inr (1, [.ref w0, .ref k0, .int (bI false), .int (bI r0), .int (nI s0), .int (nI n0), .int (nI p0)])), (x1, .inr (1, [.ref w1, .ref k1, .int (bI false), .int (bI r1), .int (nI s1), .int (nI n1), .int (nI p1)])), (x2, .inr (1, [.ref w2, .ref k2, .int (bI o2), .int (bI r2), .int (nI s2), .int (nI n2), .int (nI p2)])), (x3, .inr (1, [.ref w3, .ref k3, .int (bI o3), .int (bI r3), .int (nI s3), .int (nI n3), .int (nI p3)])), (q1, .inr (3, [.ref q4, .int (bI true), .int (nI wl), .int (nI 0)]))] H := hP
  have hD : va_D A [(h0, .inr (4, [.ref q1, .ref q2, .ref q3, .ref qs, .ref qh])), (qs, .inl (cR, 4, .inr (.inr (.inr (.inr cf))))), (q4, .inl (cI, 4096, .inl (aN D))), (q2, .inr (2, [.ref q1, .ref qd, .ref qt, .int (nI V)])), (q3, .inr (0, [.ref qn])), (qn, .inl (cZ, 64, .inl (aB T))), (x0, .inr (1, [.ref w0, .ref k0, .int (bI false), .int (bI r0), .int (nI s0), .int (nI n0), .int (nI p0)])), (x1, .inr (1, [.ref w1, .ref k1, .int (bI false), .int (bI r1), .int (nI s1), .int (nI n1), .int (nI p1)])), (x2, .inr (1, [.ref w2, .ref k2, .int (bI o2), .int (bI r2), .int (nI s2), .int (nI n2), .int (nI p2)])), (x3, .inr (1, [.ref w3, .ref k3, .int (bI o3), .int (bI r3), .int (nI s3), .int (nI n3), .int (nI p3)])), (q1, .inr (3, [.ref q4, .int (bI true), .int (nI wl), .int (nI 0)]))] := hD
  refine lv_iinc (v := nI 2) (lv' := [(2, .int (nI 2)), (0, .ref h0), (1, .int (nI V))]) hx hb dX4_login_38 hl (k := 0) rfl (nr_inc _ _ (by omega)) (by decide) rfl (fun ls hl => ?_)
  refine lv_goto (tgt := 23) hx hb dX4_login_41 (by decide) ?_
  refine lv_iload_n hx hb dX4_login_23 rfl (lv_at hl 0 rfl) ?_
  refine lv_iconst (v := nI 4) hx hb dX4_login_24 (by decide) ?_
  refine nr_ge (tgt := 44) hx hb (by omega) (by omega) dX4_login_25 (by decide) (fun c_25 => absurd c_25 (by omega)) (fun c_25 => ?_)
  refine lv_aload_n hx hb dX4_login_28 rfl (lv_at hl 1 rfl) ?_
  refine va_get (D := dd) (ci := 4) (v := .ref qs) (C := RX4) (T := TX4) (N := 5) hx hb hts hin_X4 hown hK.1 hP 0 rfl rfl 3 (by decide) hf_34 (fun _ h9 => h9) rfl dX4_login_29 ?_
  refine lv_iload_n hx hb dX4_login_32 rfl (lv_at hl 0 rfl) ?_
  refine va_aldq hx hb hK.1 hP 1 2 rfl rfl (vp_in_nI (by omega) (by decide)) dX4_login_33 ?_
  rw [nI_clamp (by omega), hc2]
  refine W.eq (g2 := F0 m 34 ls [.ref x2]) rfl ?_
  refine lv_iconst (v := nI 0) hx hb dX4_login_34 (by decide) ?_
  refine va_putN (D := dd) (ci := 1) (v := .int (nI 0)) (ty := .boolean) (C := RX1) (T := TX1) (N := 7) hx hb hts hin_X1 tyX1 tyX1_ok nmX1 hown hK.1 hP hD hS 8 rfl rfl 2 (by decide) (hK.2.use 12 rfl) (fun _ h9 => h9) rfl (by decide +kernel) rfl rfl (Nat.le_of_ble_eq_true rfl) dX4_login_35 (fun H locs hP hD hS => ?_)
  have hP : va_P dd vwCl [(h0, .inr (4, [.ref q1, .ref q2, .ref q3, .ref qs, .ref qh])), (qs, .inl (cR, 4, .inr (.inr (.inr (.inr cf))))), (q4, .inl (cI, 4096, .inl (aN D))), (q2, .inr (2, [.ref q1, .ref qd, .ref qt, .int (nI V)])), (q3, .inr (0, [.ref qn])), (qn, .inl (cZ, 64, .inl (aB T))), (x0, .inr (1, [.ref w0, .ref k0, .int (bI false), .int (bI r0), .int (nI s0), .int (nI n0), .int (nI p0)])), (x1, .inr (1, [.ref w1, .ref k1, .int (bI false), .int (bI r1), .int (nI s1), .int (nI n1), .int (nI p1)])), (x2, .inr (1, [.ref w2, .ref k2, .int (bI false), .int (bI r2), .int (nI s2), .int (nI n2), .int (nI p2)])), (x3, .inr (1, [.ref w3, .ref k3, .int (bI o3), .int (bI r3), .int (nI s3), .int (nI n3), .int (nI p3)])), (q1, .inr (3, [.ref q4, .int (bI true), .int (nI wl), .int (nI 0)]))] H := hP
  have hD : va_D A [(h0, .inr (4, [.ref q1, .ref q2, .ref q3, .ref qs, .ref qh])), (qs, .inl (cR, 4, .inr (.inr (.inr (.inr cf))))), (q4, .inl (cI, 4096, .inl (aN D))), (q2, .inr (2, [.ref q1, .ref qd, .ref qt, .int (nI V)])), (q3, .inr (0, [.ref qn])), (qn, .inl (cZ, 64, .inl (aB T))), (x0, .inr (1, [.ref w0, .ref k0, .int (bI false), .int (bI r0), .int (nI s0), .int (nI n0), .int (nI p0)])), (x1, .inr (1, [.ref w1, .ref k1, .int (bI false), .int (bI r1), .int (nI s1), .int (nI n1), .int (nI p1)])), (x2, .inr (1, [.ref w2, .ref k2, .int (bI false), .int (bI r2), .int (nI s2), .int (nI n2), .int (nI p2)])), (x3, .inr (1, [.ref w3, .ref k3, .int (bI o3), .int (bI r3), .int (nI s3), .int (nI n3), .int (nI p3)])), (q1, .inr (3, [.ref q4, .int (bI true), .int (nI wl), .int (nI 0)]))] := hD
  refine lv_iinc (v := nI 3) (lv' := [(2, .int (nI 3)), (0, .ref h0), (1, .int (nI V))]) hx hb dX4_login_38 hl (k := 0) rfl (nr_inc _ _ (by omega)) (by decide) rfl (fun ls hl => ?_)
  refine lv_goto (tgt := 23) hx hb dX4_login_41 (by decide) ?_
  refine lv_iload_n hx hb dX4_login_23 rfl (lv_at hl 0 rfl) ?_
  refine lv_iconst (v := nI 4) hx hb dX4_login_24 (by decide) ?_
  refine nr_ge (tgt := 44) hx hb (by omega) (by omega) dX4_login_25 (by decide) (fun c_25 => absurd c_25 (by omega)) (fun c_25 => ?_)
  refine lv_aload_n hx hb dX4_login_28 rfl (lv_at hl 1 rfl) ?_
  refine va_get (D := dd) (ci := 4) (v := .ref qs) (C := RX4) (T := TX4) (N := 5) hx hb hts hin_X4 hown hK.1 hP 0 rfl rfl 3 (by decide) hf_34 (fun _ h9 => h9) rfl dX4_login_29 ?_
  refine lv_iload_n hx hb dX4_login_32 rfl (lv_at hl 0 rfl) ?_
  refine va_aldq hx hb hK.1 hP 1 2 rfl rfl (vp_in_nI (by omega) (by decide)) dX4_login_33 ?_
  rw [nI_clamp (by omega), hc3]
  refine W.eq (g2 := F0 m 34 ls [.ref x3]) rfl ?_
  refine lv_iconst (v := nI 0) hx hb dX4_login_34 (by decide) ?_
  refine va_putN (D := dd) (ci := 1) (v := .int (nI 0)) (ty := .boolean) (C := RX1) (T := TX1) (N := 7) hx hb hts hin_X1 tyX1 tyX1_ok nmX1 hown hK.1 hP hD hS 9 rfl rfl 2 (by decide) (hK.2.use 12 rfl) (fun _ h9 => h9) rfl (by decide +kernel) rfl rfl (Nat.le_of_ble_eq_true rfl) dX4_login_35 (fun H locs hP hD hS => ?_)
  have hP : va_P dd vwCl [(h0, .inr (4, [.ref q1, .ref q2, .ref q3, .ref qs, .ref qh])), (qs, .inl (cR, 4, .inr (.inr (.inr (.inr cf))))), (q4, .inl (cI, 4096, .inl (aN D))), (q2, .inr (2, [.ref q1, .ref qd, .ref qt, .int (nI V)])), (q3, .inr (0, [.ref qn])), (qn, .inl (cZ, 64, .inl (aB T))), (x0, .inr (1, [.ref w0, .ref k0, .int (bI false), .int (bI r0), .int (nI s0), .int (nI n0), .int (nI p0)])), (x1, .inr (1, [.ref w1, .ref k1, .int (bI false), .int (bI r1), .int (nI s1), .int (nI n1), .int (nI p1)])), (x2, .inr (1, [.ref w2, .ref k2, .int (bI false), .int (bI r2), .int (nI s2), .int (nI n2), .int (nI p2)])), (x3, .inr (1, [.ref w3, .ref k3, .int (bI false), .int (bI r3), .int (nI s3), .int (nI n3), .int (nI p3)])), (q1, .inr (3, [.ref q4, .int (bI true), .int (nI wl), .int (nI 0)]))] H := hP
  have hD : va_D A [(h0, .inr (4, [.ref q1, .ref q2, .ref q3, .ref qs, .ref qh])), (qs, .inl (cR, 4, .inr (.inr (.inr (.inr cf))))), (q4, .inl (cI, 4096, .inl (aN D))), (q2, .inr (2, [.ref q1, .ref qd, .ref qt, .int (nI V)])), (q3, .inr (0, [.ref qn])), (qn, .inl (cZ, 64, .inl (aB T))), (x0, .inr (1, [.ref w0, .ref k0, .int (bI false), .int (bI r0), .int (nI s0), .int (nI n0), .int (nI p0)])), (x1, .inr (1, [.ref w1, .ref k1, .int (bI false), .int (bI r1), .int (nI s1), .int (nI n1), .int (nI p1)])), (x2, .inr (1, [.ref w2, .ref k2, .int (bI false), .int (bI r2), .int (nI s2), .int (nI n2), .int (nI p2)])), (x3, .inr (1, [.ref w3, .ref k3, .int (bI false), .int (bI r3), .int (nI s3), .int (nI n3), .int (nI p3)])), (q1, .inr (3, [.ref q4, .int (bI true), .int (nI wl), .int (nI 0)]))] := hD
  refine lv_iinc (v := nI 4) (lv' := [(2, .int (nI 4)), (0, .ref h0), (1, .int (nI V))]) hx hb dX4_login_38 hl (k := 0) rfl (nr_inc _ _ (by omega)) (by decide) rfl (fun ls hl => ?_)
  refine lv_goto (tgt := 23) hx hb dX4_login_41 (by decide) ?_
  refine lv_iload_n hx hb dX4_login_23 rfl (lv_at hl 0 rfl) ?_
  refine lv_iconst (v := nI 4) hx hb dX4_login_24 (by decide) ?_
  refine nr_ge (tgt := 44) hx hb (by omega) (by omega) dX4_login_25 (by decide) (fun c_25 => ?_) (fun c_25 => absurd c_25 (by omega))
  refine lv_aload_n hx hb dX4_login_44 rfl (lv_at hl 1 rfl) ?_
  refine cm_v (wc := [(h0, .inr (4, [.ref q1, .ref q2, .ref q3, .ref qs, .ref qh])), (q1, .inr (3, [.ref q4, .int (bI true), .int (nI wl), .int (nI 0)])), (q4, .inl (cI, 4096, .inl (aN D))), (q2, .inr (2, [.ref q1, .ref qd, .ref qt, .int (nI V)])), (q3, .inr (0, [.ref qn])), (qn, .inl (cZ, 64, .inl (aB T)))]) (wr := [(qs, .inl (cR, 4, .inr (.inr (.inr (.inr cf))))), (x0, .inr (1, [.ref w0, .ref k0, .int (bI false), .int (bI r0), .int (nI s0), .int (nI n0), .int (nI p0)])), (x1, .inr (1, [.ref w1, .ref k1, .int (bI false), .int (bI r1), .int (nI s1), .int (nI n1), .int (nI p1)])), (x2, .inr (1, [.ref w2, .ref k2, .int (bI false), .int (bI r2), .int (nI s2), .int (nI n2), .int (nI p2)])), (x3, .inr (1, [.ref w3, .ref k3, .int (bI false), .int (bI r3), .int (nI s3), .int (nI n3), .int (nI p3)]))]) (w1 := fun u : Unit => [(h0, .inr (4, [.ref q1, .ref q2, .ref q3, .ref qs, .ref qh])), (q1, .inr (3, [.ref q4, .int (bI true), .int (nI wl), .int (nI 0)])), (q4, .inl (cI, 4096, .inl (aN D))), (q2, .inr (2, [.ref q1, .ref qd, .ref qt, .int (nI V)])), (q3, .inr (0, [.ref qn])), (qn, .inl (cZ, 64, .inl (aB (tkE D (clT T) 32))))]) hP hD hS hA [0, 10, 2, 3, 4, 5] [1, 6, 7, 8, 9] rfl rfl (by decide) (by decide) (va_runV (As := []) (rest := []) ⟨hx, hb, hml, hown, hts⟩ (kX4_takeToldBlocks l dd cI cZ cR cJ h0 q1 q2 q3 qs qh q4 true wl (nI 0) D qd qt V qn T H.size hDb) (cwV 0 hts gX4_login_X4_takeToldBlocks rfl rfl rfl (by decide +kernel) ⟨Nat.le_of_ble_eq_true rfl, Nat.le_of_ble_eq_true rfl⟩) (pv_m hK hP hD 0 rfl (ci := 4) rfl [0, 10, 2, 3, 4, 5] (by decide) rfl rfl) rfl rfl hl.1 rfl (lv_room (Nat.le_of_ble_eq_true rfl)) dX4_login_45 ⟨Nat.zero_le _, Nat.zero_le _⟩) (fun u9 H locs hw hP hD hS => ?_)
  have hw_4 := hw
  try dsimp only at hw_4
  have hP : va_P dd vwCl [(qs, .inl (cR, 4, .inr (.inr (.inr (.inr cf))))), (x0, .inr (1, [.ref w0, .ref k0, .int (bI false), .int (bI r0), .int (nI s0), .int (nI n0), .int (nI p0)])), (x1, .inr (1, [.ref w1, .ref k1, .int (bI false), .int (bI r1), .int (nI s1), .int (nI n1), .int (nI p1)])), (x2, .inr (1, [.ref w2, .ref k2, .int (bI false), .int (bI r2), .int (nI s2), .int (nI n2), .int (nI p2)])), (x3, .inr (1, [.ref w3, .ref k3, .int (bI false), .int (bI r3), .int (nI s3), .int (nI n3), .int (nI p3)])), (h0, .inr (4, [.ref q1, .ref q2, .ref q3, .ref qs, .ref qh])), (q1, .inr (3, [.ref q4, .int (bI true), .int (nI wl), .int (nI 0)])), (q4, .inl (cI, 4096, .inl (aN D))), (q2, .inr (2, [.ref q1, .ref qd, .ref qt, .int (nI V)])), (q3, .inr (0, [.ref qn])), (qn, .inl (cZ, 64, .inl (aB (tkE D (clT T) 32))))] H := hP
  have hD : va_D A [(qs, .inl (cR, 4, .inr (.inr (.inr (.inr cf))))), (x0, .inr (1, [.ref w0, .ref k0, .int (bI false), .int (bI r0), .int (nI s0), .int (nI n0), .int (nI p0)])), (x1, .inr (1, [.ref w1, .ref k1, .int (bI false), .int (bI r1), .int (nI s1), .int (nI n1), .int (nI p1)])), (x2, .inr (1, [.ref w2, .ref k2, .int (bI false), .int (bI r2), .int (nI s2), .int (nI n2), .int (nI p2)])), (x3, .inr (1, [.ref w3, .ref k3, .int (bI false), .int (bI r3), .int (nI s3), .int (nI n3), .int (nI p3)])), (h0, .inr (4, [.ref q1, .ref q2, .ref q3, .ref qs, .ref qh])), (q1, .inr (3, [.ref q4, .int (bI true), .int (nI wl), .int (nI 0)])), (q4, .inl (cI, 4096, .inl (aN D))), (q2, .inr (2, [.ref q1, .ref qd, .ref qt, .int (nI V)])), (q3, .inr (0, [.ref qn])), (qn, .inl (cZ, 64, .inl (aB (tkE D (clT T) 32))))] := hD
  refine lv_aload_n hx hb dX4_login_48 rfl (lv_at hl 1 rfl) ?_
  refine va_get (D := dd) (ci := 4) (v := .ref q3) (C := RX4) (T := TX4) (N := 5) hx hb hts hin_X4 hown hK.1 hP 5 rfl rfl 2 (by decide) hf_28 (fun _ h9 => h9) rfl dX4_login_49 ?_
  refine cr_i (va_runVN (C := RX0) (As := []) (rest := []) ⟨hx, hb, hml, hown, hts⟩ (kX0_untaken l dd cI cZ cR cJ q3 qn (tkE D (clT T) 32)) ⟨(va_cnB 0 hts gX4_login_X0_untaken_n61 rfl rfl rfl (hK.2.at 25 rfl) hini_X0 (by decide +kernel) ⟨Nat.le_of_ble_eq_true rfl, Nat.le_of_ble_eq_true rfl⟩), him_X0_untaken, hse_X0_untaken⟩ (pv_c hK hP 9 rfl (ci := 0) rfl [9, 10] rfl) rfl rfl hl.1 rfl (lv_room (Nat.le_of_ble_eq_true rfl)) dX4_login_52 ⟨Nat.zero_le _, Nat.zero_le _⟩) ?_
  have hP9 := hP.sub (ws' := [(h0, .inr (4, [.ref q1, .ref q2, .ref q3, .ref qs, .ref qh])), (qs, .inl (cR, 4, .inr (.inr (.inr (.inr cf))))), (q1, .inr (3, [.ref q4, .int (bI true), .int (nI wl), .int (nI 0)])), (q4, .inl (cI, 4096, .inl (aN D))), (q2, .inr (2, [.ref q1, .ref qd, .ref qt, .int (nI V)])), (q3, .inr (0, [.ref qn])), (qn, .inl (cZ, 64, .inl (aB (tkE D (clT T) 32)))), (x0, .inr (1, [.ref w0, .ref k0, .int (bI false), .int (bI r0), .int (nI s0), .int (nI n0), .int (nI p0)])), (x1, .inr (1, [.ref w1, .ref k1, .int (bI false), .int (bI r1), .int (nI s1), .int (nI n1), .int (nI p1)])), (x2, .inr (1, [.ref w2, .ref k2, .int (bI false), .int (bI r2), .int (nI s2), .int (nI n2), .int (nI p2)])), (x3, .inr (1, [.ref w3, .ref k3, .int (bI false), .int (bI r3), .int (nI s3), .int (nI n3), .int (nI p3)]))]) [5, 0, 6, 7, 8, 9, 10, 1, 2, 3, 4] rfl
  have hD9 := hD.sub (ws' := [(h0, .inr (4, [.ref q1, .ref q2, .ref q3, .ref qs, .ref qh])), (qs, .inl (cR, 4, .inr (.inr (.inr (.inr cf))))), (q1, .inr (3, [.ref q4, .int (bI true), .int (nI wl), .int (nI 0)])), (q4, .inl (cI, 4096, .inl (aN D))), (q2, .inr (2, [.ref q1, .ref qd, .ref qt, .int (nI V)])), (q3, .inr (0, [.ref qn])), (qn, .inl (cZ, 64, .inl (aB (tkE D (clT T) 32)))), (x0, .inr (1, [.ref w0, .ref k0, .int (bI false), .int (bI r0), .int (nI s0), .int (nI n0), .int (nI p0)])), (x1, .inr (1, [.ref w1, .ref k1, .int (bI false), .int (bI r1), .int (nI s1), .int (nI n1), .int (nI p1)])), (x2, .inr (1, [.ref w2, .ref k2, .int (bI false), .int (bI r2), .int (nI s2), .int (nI n2), .int (nI p2)])), (x3, .inr (1, [.ref w3, .ref k3, .int (bI false), .int (bI r3), .int (nI s3), .int (nI n3), .int (nI p3)]))]) [5, 0, 6, 7, 8, 9, 10, 1, 2, 3, 4] (by decide) rfl
  exact W.iret (v := nI (cnt (ntB (tkE D (clT T) 32)) 64)) hx hb hr (fun t ht hW => ⟨⟨nI (cnt (ntB (tkE D (clT T) 32)) 64), (), rfl, rfl, by rw [ht]; exact hP9, hD9⟩, hS.F ht⟩) hS.2.2 dX4_login_55

set_option maxHeartbeats 4000000 in
set_option maxRecDepth 100000 in
theorem kX4_name (l : Launch) (dd : va_G) (cI cZ cR cJ : ClassId) (h0 : Nat) (q1 : Nat) (q2 : Nat) (q3 : Nat) (qs : Nat) (qh : Nat) (cf : Nat → Option Nat) (ci : Nat) (h5 : Nat) (qw : Nat) (qk : Nat) (op : Bool) (ro : Bool) (st : Nat) (ct : Nat) (pl : Nat) (w : Nat → Nat) (nm : Int64) (sz : Nat) (hci : ci < 4) (hcf : cf ci = some h5) : Met l yX4_name wsX4_name ({ frames := 2, cells := 0, slots := 0, locals := 42 }) (va_Pc [.ref h0, .int (nI ci), .long nm] (qm dd cI cZ cR cJ sz [(h0, .inr (4, [.ref q1, .ref q2, .ref q3, .ref qs, .ref qh])), (qs, .inl (cR, 4, .inr (.inr (.inr (.inr cf))))), (h5, .inr (1, [.ref qw, .ref qk, .int (bI op), .int (bI ro), .int (nI st), .int (nI ct), .int (nI pl)])), (qw, .inl (cI, 6, .inl (aN w)))])) (va_Qv (fun u : Unit => True) (fun u t => qa dd (va_A [(h0, .inr (4, [.ref q1, .ref q2, .ref q3, .ref qs, .ref qh])), (qs, .inl (cR, 4, .inr (.inr (.inr (.inr cf))))), (h5, .inr (1, [.ref qw, .ref qk, .int (bI op), .int (bI ro), .int (nI st), .int (nI ct), .int (nI pl)])), (qw, .inl (cI, 6, .inl (aN w)))] sz) [(h0, .inr (4, [.ref q1, .ref q2, .ref q3, .ref qs, .ref qh])), (qs, .inl (cR, 4, .inr (.inr (.inr (.inr cf))))), (h5, .inr (1, [.ref qw, .ref qk, .int (bI false), .int (bI ro), .int (nI st), .int (nI ct), .int (nI pl)])), (qw, .inl (cI, 6, .inl (aN (va_cpy (nbF nm) w 0 0 6))))] t) (va_A [(h0, .inr (4, [.ref q1, .ref q2, .ref q3, .ref qs, .ref qh])), (qs, .inl (cR, 4, .inr (.inr (.inr (.inr cf))))), (h5, .inr (1, [.ref qw, .ref qk, .int (bI op), .int (bI ro), .int (nI st), .int (nI ct), .int (nI pl)])), (qw, .inl (cI, 6, .inl (aN w)))] sz)) 0 0 (va_A [(h0, .inr (4, [.ref q1, .ref q2, .ref q3, .ref qs, .ref qh])), (qs, .inl (cR, 4, .inr (.inr (.inr (.inr cf))))), (h5, .inr (1, [.ref qw, .ref qk, .int (bI op), .int (bI ro), .int (nI st), .int (nI ct), .int (nI pl)])), (qw, .inl (cI, 6, .inl (aN w)))] sz) := by
  refine mk_mut (cc := cX4_name) (maxL := 6) (ret := none) (Qf := fun A => va_Qv (fun u : Unit => True) (fun u t => qa dd A [(h0, .inr (4, [.ref q1, .ref q2, .ref q3, .ref qs, .ref qh])), (qs, .inl (cR, 4, .inr (.inr (.inr (.inr cf))))), (h5, .inr (1, [.ref qw, .ref qk, .int (bI false), .int (bI ro), .int (nI st), .int (nI ct), .int (nI pl)])), (qw, .inl (cI, 6, .inl (aN (va_cpy (nbF nm) w 0 0 6))))] t) A) (by decide) rfl (Nat.le_of_ble_eq_true rfl) ?_
  intro p e s m below meth c A hx hb hr hts hown hlocks hml hin hP hD hA hS hK ls hl
  have hown : s.vm.findClass RX4 = some m.cls := hown
  have hl : lv_has ls 6 [(0, .ref h0), (1, .int (nI ci)), (2, .long nm)] := hl
  have hin_X1 : ∀ w ∈ wsX10, w ∈ wsX4_name := by decide +kernel
  refine lv_aload_n hx hb dX4_name_0 rfl (lv_at hl 0 rfl) ?_
  refine lv_iload_n hx hb dX4_name_1 rfl (lv_at hl 1 rfl) ?_
  refine cr_r (va_runV (As := [.int (nI ci)]) (rest := []) ⟨hx, hb, hml, hown, hts⟩ (kX4_controlAt l dd cI cZ cR cJ h0 q1 q2 q3 qs qh cf ci h5 (by omega) (by omega)) (cwV 1 hts gX4_name_X4_controlAt rfl rfl rfl (by decide +kernel) ⟨Nat.le_of_ble_eq_true rfl, Nat.le_of_ble_eq_true rfl⟩) (pv_c hK hP 0 rfl (ci := 4) rfl [0, 1] rfl) rfl rfl hl.1 rfl (lv_room (Nat.le_of_ble_eq_true rfl)) dX4_name_2 ⟨Nat.zero_le _, Nat.zero_le _⟩) ?_
  refine lv_astore (lv' := [(4, .ref h5), (0, .ref h0), (1, .int (nI ci)), (2, .long nm)]) hx hb dX4_name_5 hl (by decide) rfl (fun ls hl => ?_)
  refine lv_iconst (v := nI 0) hx hb dX4_name_7 (by decide) ?_
  refine lv_istore (lv' := [(5, .int (nI 0)), (4, .ref h5), (0, .ref h0), (1, .int (nI ci)), (2, .long nm)]) hx hb dX4_name_8 hl (by decide) rfl (fun ls hl => ?_)
  have loop_1 : ∀ (n k : Nat), k ≤ 6 → 6 + 1 ≤ k + n → ∀ (H : Heap) (locs : List Loc), va_P dd vwCl [(h0, .inr (4, [.ref q1, .ref q2, .ref q3, .ref qs, .ref qh])), (qs, .inl (cR, 4, .inr (.inr (.inr (.inr cf))))), (h5, .inr (1, [.ref qw, .ref qk, .int (bI op), .int (bI ro), .int (nI st), .int (nI ct), .int (nI pl)])), (qw, .inl (cI, 6, .inl (aN (va_cpy (nbF nm) w 0 0 k))))] H → va_D A [(h0, .inr (4, [.ref q1, .ref q2, .ref q3, .ref qs, .ref qh])), (qs, .inl (cR, 4, .inr (.inr (.inr (.inr cf))))), (h5, .inr (1, [.ref qw, .ref qk, .int (bI op), .int (bI ro), .int (nI st), .int (nI ct), .int (nI pl)])), (qw, .inl (cI, 6, .inl (aN (va_cpy (nbF nm) w 0 0 k))))] → va_S A s.heap H locs → ∀ ls : Array Slot, lv_has ls 6 [(5, .int (nI k)), (4, .ref h5), (0, .ref h0), (1, .int (nI ci)), (2, .long nm)] → W p l e (({ frames := 2, cells := 0, slots := 0, locals := 42 } : Room)) s m ([.ref h0, .int (nI ci), .long nm] : List Value).toArray below meth c H locs 0 0 (MQ below (va_Qv (fun u : Unit => True) (fun u t => qa dd A [(h0, .inr (4, [.ref q1, .ref q2, .ref q3, .ref qs, .ref qh])), (qs, .inl (cR, 4, .inr (.inr (.inr (.inr cf))))), (h5, .inr (1, [.ref qw, .ref qk, .int (bI false), .int (bI ro), .int (nI st), .int (nI ct), .int (nI pl)])), (qw, .inl (cI, 6, .inl (aN (va_cpy (nbF nm) w 0 0 6))))] t) A) ([.ref h0, .int (nI ci), .long nm] : List Value).toArray s 0 0 A) (F0 m 10 ls []) := by
    intro n
    induction n with
    | zero => intro k h1 h2; exact absurd h2 (by omega)
    | succ n ih =>
      intro k hk_k hn_k H locs hP hD hS ls hl
      have ih_2 := ih
      refine lv_iload hx hb dX4_name_10 (lv_at hl 0 rfl) ?_
      refine lv_bipush (v := nI 6) hx hb dX4_name_12 (by decide) ?_
      refine nr_ge (tgt := 42) hx hb (by omega) (by omega) dX4_name_14 (by decide) (fun c_14 => ?_) (fun c_14 => ?_)
      · have ek_k : k = 6 := by omega
        subst ek_k
        refine lv_aload hx hb dX4_name_42 (lv_at hl 1 rfl) ?_
        refine lv_iconst (v := nI 0) hx hb dX4_name_44 (by decide) ?_
        refine va_putN (D := dd) (ci := 1) (v := .int (nI 0)) (ty := .boolean) (C := RX1) (T := TX1) (N := 7) hx hb hts hin_X1 tyX1 tyX1_ok nmX1 hown hK.1 hP hD hS 2 rfl rfl 2 (by decide) (hK.2.use 12 rfl) (fun _ h9 => h9) rfl (by decide +kernel) rfl rfl (Nat.le_of_ble_eq_true rfl) dX4_name_45 (fun H locs hP hD hS => ?_)
        have hP : va_P dd vwCl [(h0, .inr (4, [.ref q1, .ref q2, .ref q3, .ref qs, .ref qh])), (qs, .inl (cR, 4, .inr (.inr (.inr (.inr cf))))), (h5, .inr (1, [.ref qw, .ref qk, .int (bI false), .int (bI ro), .int (nI st), .int (nI ct), .int (nI pl)])), (qw, .inl (cI, 6, .inl (aN (va_cpy (nbF nm) w 0 0 6))))] H := hP
        have hD : va_D A [(h0, .inr (4, [.ref q1, .ref q2, .ref q3, .ref qs, .ref qh])), (qs, .inl (cR, 4, .inr (.inr (.inr (.inr cf))))), (h5, .inr (1, [.ref qw, .ref qk, .int (bI false), .int (bI ro), .int (nI st), .int (nI ct), .int (nI pl)])), (qw, .inl (cI, 6, .inl (aN (va_cpy (nbF nm) w 0 0 6))))] := hD
        have hP9 := hP.sub (ws' := [(h0, .inr (4, [.ref q1, .ref q2, .ref q3, .ref qs, .ref qh])), (qs, .inl (cR, 4, .inr (.inr (.inr (.inr cf))))), (h5, .inr (1, [.ref qw, .ref qk, .int (bI false), .int (bI ro), .int (nI st), .int (nI ct), .int (nI pl)])), (qw, .inl (cI, 6, .inl (aN (va_cpy (nbF nm) w 0 0 6))))]) [0, 1, 2, 3] rfl
        have hD9 := hD.sub (ws' := [(h0, .inr (4, [.ref q1, .ref q2, .ref q3, .ref qs, .ref qh])), (qs, .inl (cR, 4, .inr (.inr (.inr (.inr cf))))), (h5, .inr (1, [.ref qw, .ref qk, .int (bI false), .int (bI ro), .int (nI st), .int (nI ct), .int (nI pl)])), (qw, .inl (cI, 6, .inl (aN (va_cpy (nbF nm) w 0 0 6))))]) [0, 1, 2, 3] (by decide) rfl
        exact W.vret hx hb hr (fun t ht hW => ⟨⟨(), rfl, trivial, by rw [ht]; exact hP9, hD9⟩, hS.F ht⟩) hS.2.2 dX4_name_48
      · refine lv_aload hx hb dX4_name_17 (lv_at hl 1 rfl) ?_
        refine va_getN (D := dd) (ci := 1) (v := .ref qw) (C := RX1) (T := TX1) (N := 7) hx hb hts hin_X1 hown hK.1 hP 2 rfl rfl 0 (by decide) (hK.2.use 8 rfl) (fun _ h9 => h9) rfl dX4_name_19 ?_
        refine lv_iload hx hb dX4_name_22 (lv_at hl 0 rfl) ?_
        refine lv_lload_n hx hb dX4_name_24 rfl (lv_at hl 4 rfl) ?_
        refine lv_bipush (v := nI 8) hx hb dX4_name_25 (by decide) ?_
        refine lv_iload hx hb dX4_name_27 (lv_at hl 0 rfl) ?_
        refine nr_imul (8 * k) (by omega) hx hb dX4_name_29 ?_
        refine lv_lshr (v := nm >>> ((nI (8 * k)).toInt64 &&& 63)) hx hb dX4_name_30 rfl ?_
        refine lv_l2i (v := (nm >>> ((nI (8 * k)).toInt64 &&& 63)).toInt32) hx hb dX4_name_31 rfl ?_
        refine lv_bipush (v := nI 127) hx hb dX4_name_32 (by decide) ?_
        refine nr_iand127i (nbF nm k) rfl hx hb dX4_name_34 ?_
        refine nr_iast (f := va_cpy (nbF nm) w 0 0 k) (v := nbF nm k) hx hb hK hP hD hS 3 rfl (by omega) (by decide) dX4_name_35 (fun H locs hP hD hS => ?_)
        have hP : va_P dd vwCl [(h0, .inr (4, [.ref q1, .ref q2, .ref q3, .ref qs, .ref qh])), (qs, .inl (cR, 4, .inr (.inr (.inr (.inr cf))))), (h5, .inr (1, [.ref qw, .ref qk, .int (bI op), .int (bI ro), .int (nI st), .int (nI ct), .int (nI pl)])), (qw, .inl (cI, 6, .inl (aN (va_up (va_cpy (nbF nm) w 0 0 k) k (nbF nm k)))))] H := hP
        have hD : va_D A [(h0, .inr (4, [.ref q1, .ref q2, .ref q3, .ref qs, .ref qh])), (qs, .inl (cR, 4, .inr (.inr (.inr (.inr cf))))), (h5, .inr (1, [.ref qw, .ref qk, .int (bI op), .int (bI ro), .int (nI st), .int (nI ct), .int (nI pl)])), (qw, .inl (cI, 6, .inl (aN (va_up (va_cpy (nbF nm) w 0 0 k) k (nbF nm k)))))] := hD
        have hu_3 : va_up (va_cpy (nbF nm) w 0 0 k) k (nbF nm k) = va_cpy (nbF nm) w 0 0 (k + 1) := cpy_up (by omega) (by rw [Nat.zero_add])
        rw [hu_3] at hP hD
        refine lv_iinc (v := nI (k + 1)) (lv' := [(5, .int (nI (k + 1))), (4, .ref h5), (0, .ref h0), (1, .int (nI ci)), (2, .long nm)]) hx hb dX4_name_36 hl (k := 0) rfl (nr_inc _ _ (by omega)) (by decide) rfl (fun ls hl => ?_)
        refine lv_goto (tgt := 10) hx hb dX4_name_39 (by decide) ?_
        exact ih_2 (k + 1) (by omega) (by omega) _ _ hP hD hS ls (lv_sub hl [0, 1, 2, 3, 4] rfl)
  exact loop_1 (6 + 1) 0 (by omega) (by omega) _ _ (by rw [cpy_0]; exact hP) (by rw [cpy_0]; exact hD) hS ls (lv_sub hl [0, 1, 2, 3, 4] rfl)

set_option maxHeartbeats 4000000 in
set_option maxRecDepth 100000 in
theorem kX4_buffer (l : Launch) (dd : va_G) (cI cZ cR cJ : ClassId) (h0 : Nat) (q1 : Nat) (q2 : Nat) (q3 : Nat) (qs : Nat) (qh : Nat) (bf : Nat → Nat) (hh : Nat) (hhh : hh < 2) : Met l yX4_buffer wsX4_buffer ({ frames := 1, cells := 0, slots := 0, locals := 21 }) (va_Pc [.ref h0, .int (nI hh)] (qc dd cI cZ cR cJ [(h0, .inr (4, [.ref q1, .ref q2, .ref q3, .ref qs, .ref qh])), (qh, .inl (cI, 16, .inl (aN bf)))])) (QcLong (bfR bf hh 8)) 0 0 (fun _ => False) := by
  refine mk_met (cc := cX4_buffer) (maxL := 5) (ret := (some .long)) (by decide) rfl (Nat.le_of_ble_eq_true rfl) ?_
  intro p e s m below meth c hx hb hr hts hown hlocks hml hin hv ls hl
  obtain ⟨hP, hK⟩ := hv
  have hown : s.vm.findClass RX4 = some m.cls := hown
  have hl : lv_has ls 5 [(0, .ref h0), (1, .int (nI hh))] := hl
  have hf_39 := hts (.fieldLink RX4 39 "RecordSystem" "held" "[I") (by decide +kernel)
  have hin_X4 : ∀ w ∈ wsX40, w ∈ wsX4_buffer := by decide +kernel
  refine lv_iload_n hx hb dX4_buffer_0 rfl (lv_at hl 1 rfl) ?_
  refine lv_iconst (v := nI 2) hx hb dX4_buffer_1 (by decide) ?_
  refine cr_v (va_runS (As := [.int (nI hh), .int (nI 2)]) (rest := []) ⟨hx, hb, hml, hown, hts⟩ (kX4_checkIndex l dd cI cZ cR cJ hh 2 (by omega) (by omega)) (va_cwS 2 hts gX4_buffer_X4_checkIndex rfl rfl rfl (by decide +kernel) ⟨Nat.le_of_ble_eq_true rfl, Nat.le_of_ble_eq_true rfl⟩) (ps_c hK hP [] rfl) rfl rfl hl.1 rfl (lv_room (Nat.le_of_ble_eq_true rfl)) dX4_buffer_2 ⟨Nat.zero_le _, Nat.zero_le _⟩) ?_
  refine lv_lconst (v := 0) hx hb dX4_buffer_5 (by decide) ?_
  refine lv_lstore_n (lv' := [(2, .long 0), (0, .ref h0), (1, .int (nI hh))]) hx hb dX4_buffer_6 rfl hl (by decide) rfl (fun ls hl => ?_)
  refine lv_bipush (v := nI 7) hx hb dX4_buffer_7 (by decide) ?_
  refine lv_istore (lv' := [(4, .int (nI 7)), (2, .long 0), (0, .ref h0), (1, .int (nI hh))]) hx hb dX4_buffer_9 hl (by decide) rfl (fun ls hl => ?_)
  refine lv_iload hx hb dX4_buffer_11 (lv_at hl 0 rfl) ?_
  refine nr_if_lt (tgt := 41) hx hb (by omega) dX4_buffer_13 (by decide) ?_
  refine lv_lload_n hx hb dX4_buffer_16 rfl (lv_at hl 1 rfl) ?_
  refine lv_bipush (v := nI 8) hx hb dX4_buffer_17 (by decide) ?_
  refine lv_lshl (v := 0 <<< ((nI 8).toInt64 &&& 63)) hx hb dX4_buffer_19 rfl ?_
  refine lv_aload_n hx hb dX4_buffer_20 rfl (lv_at hl 2 rfl) ?_
  refine va_get (D := dd) (ci := 4) (v := .ref qh) (C := RX4) (T := TX4) (N := 5) hx hb hts hin_X4 hown hK.1 hP 0 rfl rfl 4 (by decide) hf_39 (fun _ h9 => h9) rfl dX4_buffer_21 ?_
  refine lv_bipush (v := nI 8) hx hb dX4_buffer_24 (by decide) ?_
  refine lv_iload_n hx hb dX4_buffer_26 rfl (lv_at hl 3 rfl) ?_
  refine nr_imul (8 * hh) (by omega) hx hb dX4_buffer_27 ?_
  refine lv_iload hx hb dX4_buffer_28 (lv_at hl 0 rfl) ?_
  refine nr_iadd (8 * hh + 7) (by omega) hx hb dX4_buffer_30 ?_
  refine nr_iald (f := bf) hx hb hK hP 1 rfl (by omega) (by decide) dX4_buffer_31 ?_
  refine lv_i2l (v := (nI (bf (8 * hh + 7))).toInt64) hx hb dX4_buffer_32 rfl ?_
  refine lv_lor hx hb dX4_buffer_33 ?_
  refine lv_lstore_n (lv' := [(2, .long ((0 <<< ((nI 8).toInt64 &&& 63)) ||| ((nI (bf (8 * hh + 7))).toInt64))), (4, .int (nI 7)), (0, .ref h0), (1, .int (nI hh))]) hx hb dX4_buffer_34 rfl hl (by decide) rfl (fun ls hl => ?_)
  refine lv_iinc (v := nI 6) (lv' := [(4, .int (nI 6)), (2, .long ((0 <<< ((nI 8).toInt64 &&& 63)) ||| ((nI (bf (8 * hh + 7))).toInt64))), (0, .ref h0), (1, .int (nI hh))]) hx hb dX4_buffer_35 hl (k := 1) rfl (nr_dec _ _ (by omega)) (by decide) rfl (fun ls hl => ?_)
  refine lv_goto (tgt := 11) hx hb dX4_buffer_38 (by decide) ?_
  refine lv_iload hx hb dX4_buffer_11 (lv_at hl 0 rfl) ?_
  refine nr_if_lt (tgt := 41) hx hb (by omega) dX4_buffer_13 (by decide) ?_
  refine lv_lload_n hx hb dX4_buffer_16 rfl (lv_at hl 1 rfl) ?_
  refine lv_bipush (v := nI 8) hx hb dX4_buffer_17 (by decide) ?_
  refine lv_lshl (v := ((0 <<< ((nI 8).toInt64 &&& 63)) ||| ((nI (bf (8 * hh + 7))).toInt64)) <<< ((nI 8).toInt64 &&& 63)) hx hb dX4_buffer_19 rfl ?_
  refine lv_aload_n hx hb dX4_buffer_20 rfl (lv_at hl 2 rfl) ?_
  refine va_get (D := dd) (ci := 4) (v := .ref qh) (C := RX4) (T := TX4) (N := 5) hx hb hts hin_X4 hown hK.1 hP 0 rfl rfl 4 (by decide) hf_39 (fun _ h9 => h9) rfl dX4_buffer_21 ?_
  refine lv_bipush (v := nI 8) hx hb dX4_buffer_24 (by decide) ?_
  refine lv_iload_n hx hb dX4_buffer_26 rfl (lv_at hl 3 rfl) ?_
  refine nr_imul (8 * hh) (by omega) hx hb dX4_buffer_27 ?_
  refine lv_iload hx hb dX4_buffer_28 (lv_at hl 0 rfl) ?_
  refine nr_iadd (8 * hh + 6) (by omega) hx hb dX4_buffer_30 ?_
  refine nr_iald (f := bf) hx hb hK hP 1 rfl (by omega) (by decide) dX4_buffer_31 ?_
  refine lv_i2l (v := (nI (bf (8 * hh + 6))).toInt64) hx hb dX4_buffer_32 rfl ?_
  refine lv_lor hx hb dX4_buffer_33 ?_
  refine lv_lstore_n (lv' := [(2, .long ((((0 <<< ((nI 8).toInt64 &&& 63)) ||| ((nI (bf (8 * hh + 7))).toInt64)) <<< ((nI 8).toInt64 &&& 63)) ||| ((nI (bf (8 * hh + 6))).toInt64))), (4, .int (nI 6)), (0, .ref h0), (1, .int (nI hh))]) hx hb dX4_buffer_34 rfl hl (by decide) rfl (fun ls hl => ?_)
  refine lv_iinc (v := nI 5) (lv' := [(4, .int (nI 5)), (2, .long ((((0 <<< ((nI 8).toInt64 &&& 63)) ||| ((nI (bf (8 * hh + 7))).toInt64)) <<< ((nI 8).toInt64 &&& 63)) ||| ((nI (bf (8 * hh + 6))).toInt64))), (0, .ref h0), (1, .int (nI hh))]) hx hb dX4_buffer_35 hl (k := 1) rfl (nr_dec _ _ (by omega)) (by decide) rfl (fun ls hl => ?_)
  refine lv_goto (tgt := 11) hx hb dX4_buffer_38 (by decide) ?_
  refine lv_iload hx hb dX4_buffer_11 (lv_at hl 0 rfl) ?_
  refine nr_if_lt (tgt := 41) hx hb (by omega) dX4_buffer_13 (by decide) ?_
  refine lv_lload_n hx hb dX4_buffer_16 rfl (lv_at hl 1 rfl) ?_
  refine lv_bipush (v := nI 8) hx hb dX4_buffer_17 (by decide) ?_
  refine lv_lshl (v := ((((0 <<< ((nI 8).toInt64 &&& 63)) ||| ((nI (bf (8 * hh + 7))).toInt64)) <<< ((nI 8).toInt64 &&& 63)) ||| ((nI (bf (8 * hh + 6))).toInt64)) <<< ((nI 8).toInt64 &&& 63)) hx hb dX4_buffer_19 rfl ?_
  refine lv_aload_n hx hb dX4_buffer_20 rfl (lv_at hl 2 rfl) ?_
  refine va_get (D := dd) (ci := 4) (v := .ref qh) (C := RX4) (T := TX4) (N := 5) hx hb hts hin_X4 hown hK.1 hP 0 rfl rfl 4 (by decide) hf_39 (fun _ h9 => h9) rfl dX4_buffer_21 ?_
  refine lv_bipush (v := nI 8) hx hb dX4_buffer_24 (by decide) ?_
  refine lv_iload_n hx hb dX4_buffer_26 rfl (lv_at hl 3 rfl) ?_
  refine nr_imul (8 * hh) (by omega) hx hb dX4_buffer_27 ?_
  refine lv_iload hx hb dX4_buffer_28 (lv_at hl 0 rfl) ?_
  refine nr_iadd (8 * hh + 5) (by omega) hx hb dX4_buffer_30 ?_
  refine nr_iald (f := bf) hx hb hK hP 1 rfl (by omega) (by decide) dX4_buffer_31 ?_
  refine lv_i2l (v := (nI (bf (8 * hh + 5))).toInt64) hx hb dX4_buffer_32 rfl ?_
  refine lv_lor hx hb dX4_buffer_33 ?_
  refine lv_lstore_n (lv' := [(2, .long ((((((0 <<< ((nI 8).toInt64 &&& 63)) ||| ((nI (bf (8 * hh + 7))).toInt64)) <<< ((nI 8).toInt64 &&& 63)) ||| ((nI (bf (8 * hh + 6))).toInt64)) <<< ((nI 8).toInt64 &&& 63)) ||| ((nI (bf (8 * hh + 5))).toInt64))), (4, .int (nI 5)), (0, .ref h0), (1, .int (nI hh))]) hx hb dX4_buffer_34 rfl hl (by decide) rfl (fun ls hl => ?_)
  refine lv_iinc (v := nI 4) (lv' := [(4, .int (nI 4)), (2, .long ((((((0 <<< ((nI 8).toInt64 &&& 63)) ||| ((nI (bf (8 * hh + 7))).toInt64)) <<< ((nI 8).toInt64 &&& 63)) ||| ((nI (bf (8 * hh + 6))).toInt64)) <<< ((nI 8).toInt64 &&& 63)) ||| ((nI (bf (8 * hh + 5))).toInt64))), (0, .ref h0), (1, .int (nI hh))]) hx hb dX4_buffer_35 hl (k := 1) rfl (nr_dec _ _ (by omega)) (by decide) rfl (fun ls hl => ?_)
  refine lv_goto (tgt := 11) hx hb dX4_buffer_38 (by decide) ?_
  refine lv_iload hx hb dX4_buffer_11 (lv_at hl 0 rfl) ?_
  refine nr_if_lt (tgt := 41) hx hb (by omega) dX4_buffer_13 (by decide) ?_
  refine lv_lload_n hx hb dX4_buffer_16 rfl (lv_at hl 1 rfl) ?_
  refine lv_bipush (v := nI 8) hx hb dX4_buffer_17 (by decide) ?_
  refine lv_lshl (v := ((((((0 <<< ((nI 8).toInt64 &&& 63)) ||| ((nI (bf (8 * hh + 7))).toInt64)) <<< ((nI 8).toInt64 &&& 63)) ||| ((nI (bf (8 * hh + 6))).toInt64)) <<< ((nI 8).toInt64 &&& 63)) ||| ((nI (bf (8 * hh + 5))).toInt64)) <<< ((nI 8).toInt64 &&& 63)) hx hb dX4_buffer_19 rfl ?_
  refine lv_aload_n hx hb dX4_buffer_20 rfl (lv_at hl 2 rfl) ?_
  refine va_get (D := dd) (ci := 4) (v := .ref qh) (C := RX4) (T := TX4) (N := 5) hx hb hts hin_X4 hown hK.1 hP 0 rfl rfl 4 (by decide) hf_39 (fun _ h9 => h9) rfl dX4_buffer_21 ?_
  refine lv_bipush (v := nI 8) hx hb dX4_buffer_24 (by decide) ?_
  refine lv_iload_n hx hb dX4_buffer_26 rfl (lv_at hl 3 rfl) ?_
  refine nr_imul (8 * hh) (by omega) hx hb dX4_buffer_27 ?_
  refine lv_iload hx hb dX4_buffer_28 (lv_at hl 0 rfl) ?_
  refine nr_iadd (8 * hh + 4) (by omega) hx hb dX4_buffer_30 ?_
  refine nr_iald (f := bf) hx hb hK hP 1 rfl (by omega) (by decide) dX4_buffer_31 ?_
  refine lv_i2l (v := (nI (bf (8 * hh + 4))).toInt64) hx hb dX4_buffer_32 rfl ?_
  refine lv_lor hx hb dX4_buffer_33 ?_
  refine lv_lstore_n (lv' := [(2, .long ((((((((0 <<< ((nI 8).toInt64 &&& 63)) ||| ((nI (bf (8 * hh + 7))).toInt64)) <<< ((nI 8).toInt64 &&& 63)) ||| ((nI (bf (8 * hh + 6))).toInt64)) <<< ((nI 8).toInt64 &&& 63)) ||| ((nI (bf (8 * hh + 5))).toInt64)) <<< ((nI 8).toInt64 &&& 63)) ||| ((nI (bf (8 * hh + 4))).toInt64))), (4, .int (nI 4)), (0, .ref h0), (1, .int (nI hh))]) hx hb dX4_buffer_34 rfl hl (by decide) rfl (fun ls hl => ?_)
  refine lv_iinc (v := nI 3) (lv' := [(4, .int (nI 3)), (2, .long ((((((((0 <<< ((nI 8).toInt64 &&& 63)) ||| ((nI (bf (8 * hh + 7))).toInt64)) <<< ((nI 8).toInt64 &&& 63)) ||| ((nI (bf (8 * hh + 6))).toInt64)) <<< ((nI 8).toInt64 &&& 63)) ||| ((nI (bf (8 * hh + 5))).toInt64)) <<< ((nI 8).toInt64 &&& 63)) ||| ((nI (bf (8 * hh + 4))).toInt64))), (0, .ref h0), (1, .int (nI hh))]) hx hb dX4_buffer_35 hl (k := 1) rfl (nr_dec _ _ (by omega)) (by decide) rfl (fun ls hl => ?_)
  refine lv_goto (tgt := 11) hx hb dX4_buffer_38 (by decide) ?_
  refine lv_iload hx hb dX4_buffer_11 (lv_at hl 0 rfl) ?_
  refine nr_if_lt (tgt := 41) hx hb (by omega) dX4_buffer_13 (by decide) ?_
  refine lv_lload_n hx hb dX4_buffer_16 rfl (lv_at hl 1 rfl) ?_
  refine lv_bipush (v := nI 8) hx hb dX4_buffer_17 (by decide) ?_
  refine lv_lshl (v := ((((((((0 <<< ((nI 8).toInt64 &&& 63)) ||| ((nI (bf (8 * hh + 7))).toInt64)) <<< ((nI 8).toInt64 &&& 63)) ||| ((nI (bf (8 * hh + 6))).toInt64)) <<< ((nI 8).toInt64 &&& 63)) ||| ((nI (bf (8 * hh + 5))).toInt64)) <<< ((nI 8).toInt64 &&& 63)) ||| ((nI (bf (8 * hh + 4))).toInt64)) <<< ((nI 8).toInt64 &&& 63)) hx hb dX4_buffer_19 rfl ?_
  refine lv_aload_n hx hb dX4_buffer_20 rfl (lv_at hl 2 rfl) ?_
  refine va_get (D := dd) (ci := 4) (v := .ref qh) (C := RX4) (T := TX4) (N := 5) hx hb hts hin_X4 hown hK.1 hP 0 rfl rfl 4 (by decide) hf_39 (fun _ h9 => h9) rfl dX4_buffer_21 ?_
  refine lv_bipush (v := nI 8) hx hb dX4_buffer_24 (by decide) ?_
  refine lv_iload_n hx hb dX4_buffer_26 rfl (lv_at hl 3 rfl) ?_
  refine nr_imul (8 * hh) (by omega) hx hb dX4_buffer_27 ?_
  refine lv_iload hx hb dX4_buffer_28 (lv_at hl 0 rfl) ?_
  refine nr_iadd (8 * hh + 3) (by omega) hx hb dX4_buffer_30 ?_
  refine nr_iald (f := bf) hx hb hK hP 1 rfl (by omega) (by decide) dX4_buffer_31 ?_
  refine lv_i2l (v := (nI (bf (8 * hh + 3))).toInt64) hx hb dX4_buffer_32 rfl ?_
  refine lv_lor hx hb dX4_buffer_33 ?_
  refine lv_lstore_n (lv' := [(2, .long ((((((((((0 <<< ((nI 8).toInt64 &&& 63)) ||| ((nI (bf (8 * hh + 7))).toInt64)) <<< ((nI 8).toInt64 &&& 63)) ||| ((nI (bf (8 * hh + 6))).toInt64)) <<< ((nI 8).toInt64 &&& 63)) ||| ((nI (bf (8 * hh + 5))).toInt64)) <<< ((nI 8).toInt64 &&& 63)) ||| ((nI (bf (8 * hh + 4))).toInt64)) <<< ((nI 8).toInt64 &&& 63)) ||| ((nI (bf (8 * hh + 3))).toInt64))), (4, .int (nI 3)), (0, .ref h0), (1, .int (nI hh))]) hx hb dX4_buffer_34 rfl hl (by decide) rfl (fun ls hl => ?_)
  refine lv_iinc (v := nI 2) (lv' := [(4, .int (nI 2)), (2, .long ((((((((((0 <<< ((nI 8).toInt64 &&& 63)) ||| ((nI (bf (8 * hh + 7))).toInt64)) <<< ((nI 8).toInt64 &&& 63)) ||| ((nI (bf (8 * hh + 6))).toInt64)) <<< ((nI 8).toInt64 &&& 63)) ||| ((nI (bf (8 * hh + 5))).toInt64)) <<< ((nI 8).toInt64 &&& 63)) ||| ((nI (bf (8 * hh + 4))).toInt64)) <<< ((nI 8).toInt64 &&& 63)) ||| ((nI (bf (8 * hh + 3))).toInt64))), (0, .ref h0), (1, .int (nI hh))]) hx hb dX4_buffer_35 hl (k := 1) rfl (nr_dec _ _ (by omega)) (by decide) rfl (fun ls hl => ?_)
  refine lv_goto (tgt := 11) hx hb dX4_buffer_38 (by decide) ?_
  refine lv_iload hx hb dX4_buffer_11 (lv_at hl 0 rfl) ?_
  refine nr_if_lt (tgt := 41) hx hb (by omega) dX4_buffer_13 (by decide) ?_
  refine lv_lload_n hx hb dX4_buffer_16 rfl (lv_at hl 1 rfl) ?_
  refine lv_bipush (v := nI 8) hx hb dX4_buffer_17 (by decide) ?_
  refine lv_lshl (v := ((((((((((0 <<< ((nI 8).toInt64 &&& 63)) ||| ((nI (bf (8 * hh + 7))).toInt64)) <<< ((nI 8).toInt64 &&& 63)) ||| ((nI (bf (8 * hh + 6))).toInt64)) <<< ((nI 8).toInt64 &&& 63)) ||| ((nI (bf (8 * hh + 5))).toInt64)) <<< ((nI 8).toInt64 &&& 63)) ||| ((nI (bf (8 * hh + 4))).toInt64)) <<< ((nI 8).toInt64 &&& 63)) ||| ((nI (bf (8 * hh + 3))).toInt64)) <<< ((nI 8).toInt64 &&& 63)) hx hb dX4_buffer_19 rfl ?_
  refine lv_aload_n hx hb dX4_buffer_20 rfl (lv_at hl 2 rfl) ?_
  refine va_get (D := dd) (ci := 4) (v := .ref qh) (C := RX4) (T := TX4) (N := 5) hx hb hts hin_X4 hown hK.1 hP 0 rfl rfl 4 (by decide) hf_39 (fun _ h9 => h9) rfl dX4_buffer_21 ?_
  refine lv_bipush (v := nI 8) hx hb dX4_buffer_24 (by decide) ?_
  refine lv_iload_n hx hb dX4_buffer_26 rfl (lv_at hl 3 rfl) ?_
  refine nr_imul (8 * hh) (by omega) hx hb dX4_buffer_27 ?_
  refine lv_iload hx hb dX4_buffer_28 (lv_at hl 0 rfl) ?_
  refine nr_iadd (8 * hh + 2) (by omega) hx hb dX4_buffer_30 ?_
  refine nr_iald (f := bf) hx hb hK hP 1 rfl (by omega) (by decide) dX4_buffer_31 ?_
  refine lv_i2l (v := (nI (bf (8 * hh + 2))).toInt64) hx hb dX4_buffer_32 rfl ?_
  refine lv_lor hx hb dX4_buffer_33 ?_
  refine lv_lstore_n (lv' := [(2, .long ((((((((((((0 <<< ((nI 8).toInt64 &&& 63)) ||| ((nI (bf (8 * hh + 7))).toInt64)) <<< ((nI 8).toInt64 &&& 63)) ||| ((nI (bf (8 * hh + 6))).toInt64)) <<< ((nI 8).toInt64 &&& 63)) ||| ((nI (bf (8 * hh + 5))).toInt64)) <<< ((nI 8).toInt64 &&& 63)) ||| ((nI (bf (8 * hh + 4))).toInt64)) <<< ((nI 8).toInt64 &&& 63)) ||| ((nI (bf (8 * hh + 3))).toInt64)) <<< ((nI 8).toInt64 &&& 63)) ||| ((nI (bf (8 * hh + 2))).toInt64))), (4, .int (nI 2)), (0, .ref h0), (1, .int (nI hh))]) hx hb dX4_buffer_34 rfl hl (by decide) rfl (fun ls hl => ?_)
  refine lv_iinc (v := nI 1) (lv' := [(4, .int (nI 1)), (2, .long ((((((((((((0 <<< ((nI 8).toInt64 &&& 63)) ||| ((nI (bf (8 * hh + 7))).toInt64)) <<< ((nI 8).toInt64 &&& 63)) ||| ((nI (bf (8 * hh + 6))).toInt64)) <<< ((nI 8).toInt64 &&& 63)) ||| ((nI (bf (8 * hh + 5))).toInt64)) <<< ((nI 8).toInt64 &&& 63)) ||| ((nI (bf (8 * hh + 4))).toInt64)) <<< ((nI 8).toInt64 &&& 63)) ||| ((nI (bf (8 * hh + 3))).toInt64)) <<< ((nI 8).toInt64 &&& 63)) ||| ((nI (bf (8 * hh + 2))).toInt64))), (0, .ref h0), (1, .int (nI hh))]) hx hb dX4_buffer_35 hl (k := 1) rfl (nr_dec _ _ (by omega)) (by decide) rfl (fun ls hl => ?_)
  refine lv_goto (tgt := 11) hx hb dX4_buffer_38 (by decide) ?_
  refine lv_iload hx hb dX4_buffer_11 (lv_at hl 0 rfl) ?_
  refine nr_if_lt (tgt := 41) hx hb (by omega) dX4_buffer_13 (by decide) ?_
  refine lv_lload_n hx hb dX4_buffer_16 rfl (lv_at hl 1 rfl) ?_
  refine lv_bipush (v := nI 8) hx hb dX4_buffer_17 (by decide) ?_
  refine lv_lshl (v := ((((((((((((0 <<< ((nI 8).toInt64 &&& 63)) ||| ((nI (bf (8 * hh + 7))).toInt64)) <<< ((nI 8).toInt64 &&& 63)) ||| ((nI (bf (8 * hh + 6))).toInt64)) <<< ((nI 8).toInt64 &&& 63)) ||| ((nI (bf (8 * hh + 5))).toInt64)) <<< ((nI 8).toInt64 &&& 63)) ||| ((nI (bf (8 * hh + 4))).toInt64)) <<< ((nI 8).toInt64 &&& 63)) ||| ((nI (bf (8 * hh + 3))).toInt64)) <<< ((nI 8).toInt64 &&& 63)) ||| ((nI (bf (8 * hh + 2))).toInt64)) <<< ((nI 8).toInt64 &&& 63)) hx hb dX4_buffer_19 rfl ?_
  refine lv_aload_n hx hb dX4_buffer_20 rfl (lv_at hl 2 rfl) ?_
  refine va_get (D := dd) (ci := 4) (v := .ref qh) (C := RX4) (T := TX4) (N := 5) hx hb hts hin_X4 hown hK.1 hP 0 rfl rfl 4 (by decide) hf_39 (fun _ h9 => h9) rfl dX4_buffer_21 ?_
  refine lv_bipush (v := nI 8) hx hb dX4_buffer_24 (by decide) ?_
  refine lv_iload_n hx hb dX4_buffer_26 rfl (lv_at hl 3 rfl) ?_
  refine nr_imul (8 * hh) (by omega) hx hb dX4_buffer_27 ?_
  refine lv_iload hx hb dX4_buffer_28 (lv_at hl 0 rfl) ?_
  refine nr_iadd (8 * hh + 1) (by omega) hx hb dX4_buffer_30 ?_
  refine nr_iald (f := bf) hx hb hK hP 1 rfl (by omega) (by decide) dX4_buffer_31 ?_
  refine lv_i2l (v := (nI (bf (8 * hh + 1))).toInt64) hx hb dX4_buffer_32 rfl ?_
  refine lv_lor hx hb dX4_buffer_33 ?_
  refine lv_lstore_n (lv' := [(2, .long ((((((((((((((0 <<< ((nI 8).toInt64 &&& 63)) ||| ((nI (bf (8 * hh + 7))).toInt64)) <<< ((nI 8).toInt64 &&& 63)) ||| ((nI (bf (8 * hh + 6))).toInt64)) <<< ((nI 8).toInt64 &&& 63)) ||| ((nI (bf (8 * hh + 5))).toInt64)) <<< ((nI 8).toInt64 &&& 63)) ||| ((nI (bf (8 * hh + 4))).toInt64)) <<< ((nI 8).toInt64 &&& 63)) ||| ((nI (bf (8 * hh + 3))).toInt64)) <<< ((nI 8).toInt64 &&& 63)) ||| ((nI (bf (8 * hh + 2))).toInt64)) <<< ((nI 8).toInt64 &&& 63)) ||| ((nI (bf (8 * hh + 1))).toInt64))), (4, .int (nI 1)), (0, .ref h0), (1, .int (nI hh))]) hx hb dX4_buffer_34 rfl hl (by decide) rfl (fun ls hl => ?_)
  refine lv_iinc (v := nI 0) (lv' := [(4, .int (nI 0)), (2, .long ((((((((((((((0 <<< ((nI 8).toInt64 &&& 63)) ||| ((nI (bf (8 * hh + 7))).toInt64)) <<< ((nI 8).toInt64 &&& 63)) ||| ((nI (bf (8 * hh + 6))).toInt64)) <<< ((nI 8).toInt64 &&& 63)) ||| ((nI (bf (8 * hh + 5))).toInt64)) <<< ((nI 8).toInt64 &&& 63)) ||| ((nI (bf (8 * hh + 4))).toInt64)) <<< ((nI 8).toInt64 &&& 63)) ||| ((nI (bf (8 * hh + 3))).toInt64)) <<< ((nI 8).toInt64 &&& 63)) ||| ((nI (bf (8 * hh + 2))).toInt64)) <<< ((nI 8).toInt64 &&& 63)) ||| ((nI (bf (8 * hh + 1))).toInt64))), (0, .ref h0), (1, .int (nI hh))]) hx hb dX4_buffer_35 hl (k := 1) rfl (nr_dec _ _ (by omega)) (by decide) rfl (fun ls hl => ?_)
  refine lv_goto (tgt := 11) hx hb dX4_buffer_38 (by decide) ?_
  refine lv_iload hx hb dX4_buffer_11 (lv_at hl 0 rfl) ?_
  refine nr_if_lt (tgt := 41) hx hb (by omega) dX4_buffer_13 (by decide) ?_
  refine lv_lload_n hx hb dX4_buffer_16 rfl (lv_at hl 1 rfl) ?_
  refine lv_bipush (v := nI 8) hx hb dX4_buffer_17 (by decide) ?_
  refine lv_lshl (v := ((((((((((((((0 <<< ((nI 8).toInt64 &&& 63)) ||| ((nI (bf (8 * hh + 7))).toInt64)) <<< ((nI 8).toInt64 &&& 63)) ||| ((nI (bf (8 * hh + 6))).toInt64)) <<< ((nI 8).toInt64 &&& 63)) ||| ((nI (bf (8 * hh + 5))).toInt64)) <<< ((nI 8).toInt64 &&& 63)) ||| ((nI (bf (8 * hh + 4))).toInt64)) <<< ((nI 8).toInt64 &&& 63)) ||| ((nI (bf (8 * hh + 3))).toInt64)) <<< ((nI 8).toInt64 &&& 63)) ||| ((nI (bf (8 * hh + 2))).toInt64)) <<< ((nI 8).toInt64 &&& 63)) ||| ((nI (bf (8 * hh + 1))).toInt64)) <<< ((nI 8).toInt64 &&& 63)) hx hb dX4_buffer_19 rfl ?_
  refine lv_aload_n hx hb dX4_buffer_20 rfl (lv_at hl 2 rfl) ?_
  refine va_get (D := dd) (ci := 4) (v := .ref qh) (C := RX4) (T := TX4) (N := 5) hx hb hts hin_X4 hown hK.1 hP 0 rfl rfl 4 (by decide) hf_39 (fun _ h9 => h9) rfl dX4_buffer_21 ?_
  refine lv_bipush (v := nI 8) hx hb dX4_buffer_24 (by decide) ?_
  refine lv_iload_n hx hb dX4_buffer_26 rfl (lv_at hl 3 rfl) ?_
  refine nr_imul (8 * hh) (by omega) hx hb dX4_buffer_27 ?_
  refine lv_iload hx hb dX4_buffer_28 (lv_at hl 0 rfl) ?_
  refine nr_iadd (8 * hh) (by omega) hx hb dX4_buffer_30 ?_
  refine nr_iald (f := bf) hx hb hK hP 1 rfl (by omega) (by decide) dX4_buffer_31 ?_
  refine lv_i2l (v := (nI (bf (8 * hh))).toInt64) hx hb dX4_buffer_32 rfl ?_
  refine lv_lor hx hb dX4_buffer_33 ?_
  refine lv_lstore_n (lv' := [(2, .long ((((((((((((((((0 <<< ((nI 8).toInt64 &&& 63)) ||| ((nI (bf (8 * hh + 7))).toInt64)) <<< ((nI 8).toInt64 &&& 63)) ||| ((nI (bf (8 * hh + 6))).toInt64)) <<< ((nI 8).toInt64 &&& 63)) ||| ((nI (bf (8 * hh + 5))).toInt64)) <<< ((nI 8).toInt64 &&& 63)) ||| ((nI (bf (8 * hh + 4))).toInt64)) <<< ((nI 8).toInt64 &&& 63)) ||| ((nI (bf (8 * hh + 3))).toInt64)) <<< ((nI 8).toInt64 &&& 63)) ||| ((nI (bf (8 * hh + 2))).toInt64)) <<< ((nI 8).toInt64 &&& 63)) ||| ((nI (bf (8 * hh + 1))).toInt64)) <<< ((nI 8).toInt64 &&& 63)) ||| ((nI (bf (8 * hh))).toInt64))), (4, .int (nI 0)), (0, .ref h0), (1, .int (nI hh))]) hx hb dX4_buffer_34 rfl hl (by decide) rfl (fun ls hl => ?_)
  refine lv_iinc (v := (-1 : Int32)) (lv' := [(4, .int (-1 : Int32)), (2, .long ((((((((((((((((0 <<< ((nI 8).toInt64 &&& 63)) ||| ((nI (bf (8 * hh + 7))).toInt64)) <<< ((nI 8).toInt64 &&& 63)) ||| ((nI (bf (8 * hh + 6))).toInt64)) <<< ((nI 8).toInt64 &&& 63)) ||| ((nI (bf (8 * hh + 5))).toInt64)) <<< ((nI 8).toInt64 &&& 63)) ||| ((nI (bf (8 * hh + 4))).toInt64)) <<< ((nI 8).toInt64 &&& 63)) ||| ((nI (bf (8 * hh + 3))).toInt64)) <<< ((nI 8).toInt64 &&& 63)) ||| ((nI (bf (8 * hh + 2))).toInt64)) <<< ((nI 8).toInt64 &&& 63)) ||| ((nI (bf (8 * hh + 1))).toInt64)) <<< ((nI 8).toInt64 &&& 63)) ||| ((nI (bf (8 * hh))).toInt64))), (0, .ref h0), (1, .int (nI hh))]) hx hb dX4_buffer_35 hl (k := 1) rfl (by decide) (by decide) rfl (fun ls hl => ?_)
  refine lv_goto (tgt := 11) hx hb dX4_buffer_38 (by decide) ?_
  refine lv_iload hx hb dX4_buffer_11 (lv_at hl 0 rfl) ?_
  refine lv_if_lt (tgt := 41) hx hb dX4_buffer_13 (by decide) (fun c_13 => ?_) (fun c_13 => absurd c_13 (by decide))
  refine lv_lload_n hx hb dX4_buffer_41 rfl (lv_at hl 1 rfl) ?_
  have hR : (((((((((((((((0 <<< ((nI 8).toInt64 &&& 63)) ||| ((nI (bf (8 * hh + 7))).toInt64)) <<< ((nI 8).toInt64 &&& 63)) ||| ((nI (bf (8 * hh + 6))).toInt64)) <<< ((nI 8).toInt64 &&& 63)) ||| ((nI (bf (8 * hh + 5))).toInt64)) <<< ((nI 8).toInt64 &&& 63)) ||| ((nI (bf (8 * hh + 4))).toInt64)) <<< ((nI 8).toInt64 &&& 63)) ||| ((nI (bf (8 * hh + 3))).toInt64)) <<< ((nI 8).toInt64 &&& 63)) ||| ((nI (bf (8 * hh + 2))).toInt64)) <<< ((nI 8).toInt64 &&& 63)) ||| ((nI (bf (8 * hh + 1))).toInt64)) <<< ((nI 8).toInt64 &&& 63)) ||| ((nI (bf (8 * hh))).toInt64) = bfR bf hh 8 := rfl
  exact W.lret (v := (((((((((((((((0 <<< ((nI 8).toInt64 &&& 63)) ||| ((nI (bf (8 * hh + 7))).toInt64)) <<< ((nI 8).toInt64 &&& 63)) ||| ((nI (bf (8 * hh + 6))).toInt64)) <<< ((nI 8).toInt64 &&& 63)) ||| ((nI (bf (8 * hh + 5))).toInt64)) <<< ((nI 8).toInt64 &&& 63)) ||| ((nI (bf (8 * hh + 4))).toInt64)) <<< ((nI 8).toInt64 &&& 63)) ||| ((nI (bf (8 * hh + 3))).toInt64)) <<< ((nI 8).toInt64 &&& 63)) ||| ((nI (bf (8 * hh + 2))).toInt64)) <<< ((nI 8).toInt64 &&& 63)) ||| ((nI (bf (8 * hh + 1))).toInt64)) <<< ((nI 8).toInt64 &&& 63)) ||| ((nI (bf (8 * hh))).toInt64)) hx hb hr (fun t ht hW => ⟨congrArg (fun z => Outcome.returned (some (Value.long z))) hR, ht⟩) (fun q h => nomatch h) dX4_buffer_42
