set_option maxHeartbeats 4000000 in
set_option maxRecDepth 100000 in
theorem kX4_howMany (l : Launch) (dd : va_G) (cI cZ cR cJ : ClassId) (n : Nat) (hn : n < 1000) : Met l yX4_howMany wsX4_howMany ({ frames := 0, cells := 0, slots := 0, locals := 0 }) (va_Pc [.int (nI n)] (qc dd cI cZ cR cJ [])) (QcRead (hmI n)) 0 0 (fun _ => False) := by
  refine mk_met (cc := cX4_howMany) (maxL := 1) (ret := (some .int)) (by decide) rfl (Nat.le_of_ble_eq_true rfl) ?_
  intro p e s m below meth c hx hb hr hts hown hlocks hml hin hv ls hl
  obtain ⟨hP, hK⟩ := hv
  have hown : s.vm.findClass RX4 = some m.cls := hown
  have hl : lv_has ls 1 [(0, .int (nI n))] := hl
  refine lv_iload_n hx hb dX4_howMany_0 rfl (lv_at hl 0 rfl) ?_
  refine nr_if_ne (tgt := 8) hx hb (by omega) dX4_howMany_1 (by decide) (fun c_1 => ?_) (fun c_1 => ?_)
  · refine lv_iload_n hx hb dX4_howMany_8 rfl (lv_at hl 0 rfl) ?_
    have hR : nI n = hmI n := by simp [hmI, c_1]
    exact W.iret (v := nI n) hx hb hr (fun t ht hW => ⟨congrArg (fun z => Outcome.returned (some (Value.int z))) hR, ht⟩) (fun q h => nomatch h) dX4_howMany_9
  · refine lv_iconst (v := -1) hx hb dX4_howMany_4 (by decide) ?_
    refine lv_goto (tgt := 9) hx hb dX4_howMany_5 (by decide) ?_
    have hR : (-1 : Int32) = hmI n := by simp [hmI, c_1]
    exact W.iret (v := (-1 : Int32)) hx hb hr (fun t ht hW => ⟨congrArg (fun z => Outcome.returned (some (Value.int z))) hR, ht⟩) (fun q h => nomatch h) dX4_howMany_9

set_option maxHeartbeats 4000000 in
set_option maxRecDepth 100000 in
theorem kX4_takeBlocks (l : Launch) (dd : va_G) (cI cZ cR cJ : ClassId) (h0 : Nat) (q1 : Nat) (q2 : Nat) (q3 : Nat) (qs : Nat) (qh : Nat) (q4 : Nat) (le : Bool) (wl : Nat) (wd : Int32) (D : Nat → Nat) (qd : Nat) (qt : Nat) (U : Nat) (qn : Nat) (T : Nat → Bool) (en : Nat) (sz : Nat) (he : en < 32) (hDb : ∀ j, D j < 256) : Met l yX4_takeBlocks wsX4_takeBlocks ({ frames := 2, cells := 0, slots := 0, locals := 44 }) (va_Pc [.ref h0, .int (nI en)] (qm dd cI cZ cR cJ sz [(h0, .inr (4, [.ref q1, .ref q2, .ref q3, .ref qs, .ref qh])), (q1, .inr (3, [.ref q4, .int (bI le), .int (nI wl), .int wd])), (q4, .inl (cI, 4096, .inl (aN D))), (q2, .inr (2, [.ref q1, .ref qd, .ref qt, .int (nI U)])), (q3, .inr (0, [.ref qn])), (qn, .inl (cZ, 64, .inl (aB T)))])) (va_Qv (fun u : Unit => True) (fun u t => qa dd (va_A [(h0, .inr (4, [.ref q1, .ref q2, .ref q3, .ref qs, .ref qh])), (q1, .inr (3, [.ref q4, .int (bI le), .int (nI wl), .int wd])), (q4, .inl (cI, 4096, .inl (aN D))), (q2, .inr (2, [.ref q1, .ref qd, .ref qt, .int (nI U)])), (q3, .inr (0, [.ref qn])), (qn, .inl (cZ, 64, .inl (aB T)))] sz) [(h0, .inr (4, [.ref q1, .ref q2, .ref q3, .ref qs, .ref qh])), (q1, .inr (3, [.ref q4, .int (bI le), .int (nI wl), .int wd])), (q4, .inl (cI, 4096, .inl (aN D))), (q2, .inr (2, [.ref q1, .ref qd, .ref qt, .int (nI U)])), (q3, .inr (0, [.ref qn])), (qn, .inl (cZ, 64, .inl (aB (tkB D en T 7))))] t) (va_A [(h0, .inr (4, [.ref q1, .ref q2, .ref q3, .ref qs, .ref qh])), (q1, .inr (3, [.ref q4, .int (bI le), .int (nI wl), .int wd])), (q4, .inl (cI, 4096, .inl (aN D))), (q2, .inr (2, [.ref q1, .ref qd, .ref qt, .int (nI U)])), (q3, .inr (0, [.ref qn])), (qn, .inl (cZ, 64, .inl (aB T)))] sz)) 0 0 (va_A [(h0, .inr (4, [.ref q1, .ref q2, .ref q3, .ref qs, .ref qh])), (q1, .inr (3, [.ref q4, .int (bI le), .int (nI wl), .int wd])), (q4, .inl (cI, 4096, .inl (aN D))), (q2, .inr (2, [.ref q1, .ref qd, .ref qt, .int (nI U)])), (q3, .inr (0, [.ref qn])), (qn, .inl (cZ, 64, .inl (aB T)))] sz) := by
  refine mk_mut (cc := cX4_takeBlocks) (maxL := 3) (ret := none) (Qf := fun A => va_Qv (fun u : Unit => True) (fun u t => qa dd A [(h0, .inr (4, [.ref q1, .ref q2, .ref q3, .ref qs, .ref qh])), (q1, .inr (3, [.ref q4, .int (bI le), .int (nI wl), .int wd])), (q4, .inl (cI, 4096, .inl (aN D))), (q2, .inr (2, [.ref q1, .ref qd, .ref qt, .int (nI U)])), (q3, .inr (0, [.ref qn])), (qn, .inl (cZ, 64, .inl (aB (tkB D en T 7))))] t) A) (by decide) rfl (Nat.le_of_ble_eq_true rfl) ?_
  intro p e s m below meth c A hx hb hr hts hown hlocks hml hin hP hD hA hS hK ls hl
  have hown : s.vm.findClass RX4 = some m.cls := hown
  have hl : lv_has ls 3 [(0, .ref h0), (1, .int (nI en))] := hl
  have hf_28 := hts (.fieldLink RX4 28 "RecordSystem" "map" "LRecordSystem$BlockMap;") (by decide +kernel)
  have hin_X4 : ∀ w ∈ wsX40, w ∈ wsX4_takeBlocks := by decide +kernel
  have hf_21 := hts (.fieldLink RX4 21 "RecordSystem" "directory" "LRecordSystem$Directory;") (by decide +kernel)
  have hini_X2 := hts (.initialized RX2) (by decide +kernel)
  have him_X2_blockNumber := hts (.instanceMethod yX2_blockNumber) (by decide +kernel)
  have hse_X2_blockNumber := hts (.selects RX2 yX2_blockNumber yX2_blockNumber) (by decide +kernel)
  have hini_X0 := hts (.initialized RX0) (by decide +kernel)
  have him_X0_take := hts (.instanceMethod yX0_take) (by decide +kernel)
  have hse_X0_take := hts (.selects RX0 yX0_take yX0_take) (by decide +kernel)
  refine lv_iconst (v := nI 0) hx hb dX4_takeBlocks_0 (by decide) ?_
  refine lv_istore_n (lv' := [(2, .int (nI 0)), (0, .ref h0), (1, .int (nI en))]) hx hb dX4_takeBlocks_1 rfl hl (by decide) rfl (fun ls hl => ?_)
  have loop_1 : ∀ (n k : Nat), k ≤ 7 → 7 + 1 ≤ k + n → ∀ (H : Heap) (locs : List Loc), va_P dd vwCl [(h0, .inr (4, [.ref q1, .ref q2, .ref q3, .ref qs, .ref qh])), (q1, .inr (3, [.ref q4, .int (bI le), .int (nI wl), .int wd])), (q4, .inl (cI, 4096, .inl (aN D))), (q2, .inr (2, [.ref q1, .ref qd, .ref qt, .int (nI U)])), (q3, .inr (0, [.ref qn])), (qn, .inl (cZ, 64, .inl (aB (tkB D en T k))))] H → va_D A [(h0, .inr (4, [.ref q1, .ref q2, .ref q3, .ref qs, .ref qh])), (q1, .inr (3, [.ref q4, .int (bI le), .int (nI wl), .int wd])), (q4, .inl (cI, 4096, .inl (aN D))), (q2, .inr (2, [.ref q1, .ref qd, .ref qt, .int (nI U)])), (q3, .inr (0, [.ref qn])), (qn, .inl (cZ, 64, .inl (aB (tkB D en T k))))] → va_S A s.heap H locs → ∀ ls : Array Slot, lv_has ls 3 [(2, .int (nI k)), (0, .ref h0), (1, .int (nI en))] → W p l e (({ frames := 2, cells := 0, slots := 0, locals := 44 } : Room)) s m ([.ref h0, .int (nI en)] : List Value).toArray below meth c H locs 0 0 (MQ below (va_Qv (fun u : Unit => True) (fun u t => qa dd A [(h0, .inr (4, [.ref q1, .ref q2, .ref q3, .ref qs, .ref qh])), (q1, .inr (3, [.ref q4, .int (bI le), .int (nI wl), .int wd])), (q4, .inl (cI, 4096, .inl (aN D))), (q2, .inr (2, [.ref q1, .ref qd, .ref qt, .int (nI U)])), (q3, .inr (0, [.ref qn])), (qn, .inl (cZ, 64, .inl (aB (tkB D en T 7))))] t) A) ([.ref h0, .int (nI en)] : List Value).toArray s 0 0 A) (F0 m 2 ls []) := by
    intro n
    induction n with
    | zero => intro k h1 h2; exact absurd h2 (by omega)
    | succ n ih =>
      intro k hk_k hn_k H locs hP hD hS ls hl
      have ih_2 := ih
      refine lv_iload_n hx hb dX4_takeBlocks_2 rfl (lv_at hl 0 rfl) ?_
      refine lv_bipush (v := nI 7) hx hb dX4_takeBlocks_3 (by decide) ?_
      refine nr_ge (tgt := 30) hx hb (by omega) (by omega) dX4_takeBlocks_5 (by decide) (fun c_5 => ?_) (fun c_5 => ?_)
      · have ek_k : k = 7 := by omega
        subst ek_k
        have hP9 := hP.sub (ws' := [(h0, .inr (4, [.ref q1, .ref q2, .ref q3, .ref qs, .ref qh])), (q1, .inr (3, [.ref q4, .int (bI le), .int (nI wl), .int wd])), (q4, .inl (cI, 4096, .inl (aN D))), (q2, .inr (2, [.ref q1, .ref qd, .ref qt, .int (nI U)])), (q3, .inr (0, [.ref qn])), (qn, .inl (cZ, 64, .inl (aB (tkB D en T 7))))]) [0, 1, 2, 3, 4, 5] rfl
        have hD9 := hD.sub (ws' := [(h0, .inr (4, [.ref q1, .ref q2, .ref q3, .ref qs, .ref qh])), (q1, .inr (3, [.ref q4, .int (bI le), .int (nI wl), .int wd])), (q4, .inl (cI, 4096, .inl (aN D))), (q2, .inr (2, [.ref q1, .ref qd, .ref qt, .int (nI U)])), (q3, .inr (0, [.ref qn])), (qn, .inl (cZ, 64, .inl (aB (tkB D en T 7))))]) [0, 1, 2, 3, 4, 5] (by decide) rfl
        exact W.vret hx hb hr (fun t ht hW => ⟨⟨(), rfl, trivial, by rw [ht]; exact hP9, hD9⟩, hS.F ht⟩) hS.2.2 dX4_takeBlocks_30
      · refine lv_aload_n hx hb dX4_takeBlocks_8 rfl (lv_at hl 1 rfl) ?_
        refine va_get (D := dd) (ci := 4) (v := .ref q3) (C := RX4) (T := TX4) (N := 5) hx hb hts hin_X4 hown hK.1 hP 0 rfl rfl 2 (by decide) hf_28 (fun _ h9 => h9) rfl dX4_takeBlocks_9 ?_
        refine lv_aload_n hx hb dX4_takeBlocks_12 rfl (lv_at hl 1 rfl) ?_
        refine va_get (D := dd) (ci := 4) (v := .ref q2) (C := RX4) (T := TX4) (N := 5) hx hb hts hin_X4 hown hK.1 hP 0 rfl rfl 1 (by decide) hf_21 (fun _ h9 => h9) rfl dX4_takeBlocks_13 ?_
        refine lv_iload_n hx hb dX4_takeBlocks_16 rfl (lv_at hl 2 rfl) ?_
        refine lv_iload_n hx hb dX4_takeBlocks_17 rfl (lv_at hl 0 rfl) ?_
        refine cr_i (va_runVN (C := RX2) (As := [.int (nI en), .int (nI k)]) (rest := [.ref q3]) ⟨hx, hb, hml, hown, hts⟩ (kX2_blockNumber l dd cI cZ cR cJ q2 q1 qd qt U q4 le wl wd D en k (by omega) (by omega)) ⟨(va_cnB 2 hts gX4_takeBlocks_X2_blockNumber_n186 rfl rfl rfl (hK.2.at 23 rfl) hini_X2 (by decide +kernel) ⟨Nat.le_of_ble_eq_true rfl, Nat.le_of_ble_eq_true rfl⟩), him_X2_blockNumber, hse_X2_blockNumber⟩ (pv_c hK hP 3 rfl (ci := 2) rfl [3, 1, 2] rfl) rfl rfl hl.1 rfl (lv_room (Nat.le_of_ble_eq_true rfl)) dX4_takeBlocks_18 ⟨Nat.zero_le _, Nat.zero_le _⟩) ?_
        have hv := hDb (16 * en + k + 9)
        refine cm_v (wc := [(q3, .inr (0, [.ref qn])), (qn, .inl (cZ, 64, .inl (aB (tkB D en T k))))]) (wr := [(h0, .inr (4, [.ref q1, .ref q2, .ref q3, .ref qs, .ref qh])), (q1, .inr (3, [.ref q4, .int (bI le), .int (nI wl), .int wd])), (q4, .inl (cI, 4096, .inl (aN D))), (q2, .inr (2, [.ref q1, .ref qd, .ref qt, .int (nI U)]))]) (w1 := fun u : Unit => [(q3, .inr (0, [.ref qn])), (qn, .inl (cZ, 64, .inl (aB (va_up (tkB D en T k) ((D (16 * en + k + 9)) % 64) true))))]) hP hD hS hA [4, 5] [0, 1, 2, 3] rfl rfl (by decide) (by decide) (va_runVN (C := RX0) (As := [.int (nI (D (16 * en + k + 9)))]) (rest := []) ⟨hx, hb, hml, hown, hts⟩ (kX0_take l dd cI cZ cR cJ q3 qn (tkB D en T k) (D (16 * en + k + 9)) H.size (by omega)) ⟨(va_cnB 1 hts gX4_takeBlocks_X0_take_n190 rfl rfl rfl (hK.2.at 24 rfl) hini_X0 (by decide +kernel) ⟨Nat.le_of_ble_eq_true rfl, Nat.le_of_ble_eq_true rfl⟩), him_X0_take, hse_X0_take⟩ (pv_m hK hP hD 4 rfl (ci := 0) rfl [4, 5] (by decide) rfl rfl) rfl rfl hl.1 rfl (lv_room (Nat.le_of_ble_eq_true rfl)) dX4_takeBlocks_21 ⟨Nat.zero_le _, Nat.zero_le _⟩) (fun u9 H locs hw hP hD hS => ?_)
        have hw_4 := hw
        try dsimp only at hw_4
        have hP : va_P dd vwCl [(h0, .inr (4, [.ref q1, .ref q2, .ref q3, .ref qs, .ref qh])), (q1, .inr (3, [.ref q4, .int (bI le), .int (nI wl), .int wd])), (q4, .inl (cI, 4096, .inl (aN D))), (q2, .inr (2, [.ref q1, .ref qd, .ref qt, .int (nI U)])), (q3, .inr (0, [.ref qn])), (qn, .inl (cZ, 64, .inl (aB (va_up (tkB D en T k) ((D (16 * en + k + 9)) % 64) true))))] H := hP
        have hD : va_D A [(h0, .inr (4, [.ref q1, .ref q2, .ref q3, .ref qs, .ref qh])), (q1, .inr (3, [.ref q4, .int (bI le), .int (nI wl), .int wd])), (q4, .inl (cI, 4096, .inl (aN D))), (q2, .inr (2, [.ref q1, .ref qd, .ref qt, .int (nI U)])), (q3, .inr (0, [.ref qn])), (qn, .inl (cZ, 64, .inl (aB (va_up (tkB D en T k) ((D (16 * en + k + 9)) % 64) true))))] := hD
        refine lv_iinc (v := nI (k + 1)) (lv' := [(2, .int (nI (k + 1))), (0, .ref h0), (1, .int (nI en))]) hx hb dX4_takeBlocks_24 hl (k := 0) rfl (nr_inc _ _ (by omega)) (by decide) rfl (fun ls hl => ?_)
        refine lv_goto (tgt := 2) hx hb dX4_takeBlocks_27 (by decide) ?_
        exact ih_2 (k + 1) (by omega) (by omega) _ _ hP hD hS ls (lv_sub hl [0, 1, 2] rfl)
  exact loop_1 (7 + 1) 0 (by omega) (by omega) _ _ hP hD hS ls (lv_sub hl [0, 1, 2] rfl)

set_option maxHeartbeats 4000000 in
set_option maxRecDepth 100000 in
theorem kX4_giveBackBlocks (l : Launch) (dd : va_G) (cI cZ cR cJ : ClassId) (h0 : Nat) (q1 : Nat) (q2 : Nat) (q3 : Nat) (qs : Nat) (qh : Nat) (q4 : Nat) (le : Bool) (wl : Nat) (wd : Int32) (D : Nat → Nat) (qd : Nat) (qt : Nat) (U : Nat) (qn : Nat) (T : Nat → Bool) (en : Nat) (sz : Nat) (he : en < 32) (hDb : ∀ j, D j < 256) : Met l yX4_giveBackBlocks wsX4_giveBackBlocks ({ frames := 2, cells := 0, slots := 0, locals := 44 }) (va_Pc [.ref h0, .int (nI en)] (qm dd cI cZ cR cJ sz [(h0, .inr (4, [.ref q1, .ref q2, .ref q3, .ref qs, .ref qh])), (q1, .inr (3, [.ref q4, .int (bI le), .int (nI wl), .int wd])), (q4, .inl (cI, 4096, .inl (aN D))), (q2, .inr (2, [.ref q1, .ref qd, .ref qt, .int (nI U)])), (q3, .inr (0, [.ref qn])), (qn, .inl (cZ, 64, .inl (aB T)))])) (va_Qv (fun u : Unit => True) (fun u t => qa dd (va_A [(h0, .inr (4, [.ref q1, .ref q2, .ref q3, .ref qs, .ref qh])), (q1, .inr (3, [.ref q4, .int (bI le), .int (nI wl), .int wd])), (q4, .inl (cI, 4096, .inl (aN D))), (q2, .inr (2, [.ref q1, .ref qd, .ref qt, .int (nI U)])), (q3, .inr (0, [.ref qn])), (qn, .inl (cZ, 64, .inl (aB T)))] sz) [(h0, .inr (4, [.ref q1, .ref q2, .ref q3, .ref qs, .ref qh])), (q1, .inr (3, [.ref q4, .int (bI le), .int (nI wl), .int wd])), (q4, .inl (cI, 4096, .inl (aN D))), (q2, .inr (2, [.ref q1, .ref qd, .ref qt, .int (nI U)])), (q3, .inr (0, [.ref qn])), (qn, .inl (cZ, 64, .inl (aB (gbB D en T 7))))] t) (va_A [(h0, .inr (4, [.ref q1, .ref q2, .ref q3, .ref qs, .ref qh])), (q1, .inr (3, [.ref q4, .int (bI le), .int (nI wl), .int wd])), (q4, .inl (cI, 4096, .inl (aN D))), (q2, .inr (2, [.ref q1, .ref qd, .ref qt, .int (nI U)])), (q3, .inr (0, [.ref qn])), (qn, .inl (cZ, 64, .inl (aB T)))] sz)) 0 0 (va_A [(h0, .inr (4, [.ref q1, .ref q2, .ref q3, .ref qs, .ref qh])), (q1, .inr (3, [.ref q4, .int (bI le), .int (nI wl), .int wd])), (q4, .inl (cI, 4096, .inl (aN D))), (q2, .inr (2, [.ref q1, .ref qd, .ref qt, .int (nI U)])), (q3, .inr (0, [.ref qn])), (qn, .inl (cZ, 64, .inl (aB T)))] sz) := by
  refine mk_mut (cc := cX4_giveBackBlocks) (maxL := 3) (ret := none) (Qf := fun A => va_Qv (fun u : Unit => True) (fun u t => qa dd A [(h0, .inr (4, [.ref q1, .ref q2, .ref q3, .ref qs, .ref qh])), (q1, .inr (3, [.ref q4, .int (bI le), .int (nI wl), .int wd])), (q4, .inl (cI, 4096, .inl (aN D))), (q2, .inr (2, [.ref q1, .ref qd, .ref qt, .int (nI U)])), (q3, .inr (0, [.ref qn])), (qn, .inl (cZ, 64, .inl (aB (gbB D en T 7))))] t) A) (by decide) rfl (Nat.le_of_ble_eq_true rfl) ?_
  intro p e s m below meth c A hx hb hr hts hown hlocks hml hin hP hD hA hS hK ls hl
  have hown : s.vm.findClass RX4 = some m.cls := hown
  have hl : lv_has ls 3 [(0, .ref h0), (1, .int (nI en))] := hl
  have hf_28 := hts (.fieldLink RX4 28 "RecordSystem" "map" "LRecordSystem$BlockMap;") (by decide +kernel)
  have hin_X4 : ∀ w ∈ wsX40, w ∈ wsX4_giveBackBlocks := by decide +kernel
  have hf_21 := hts (.fieldLink RX4 21 "RecordSystem" "directory" "LRecordSystem$Directory;") (by decide +kernel)
  have hini_X2 := hts (.initialized RX2) (by decide +kernel)
  have him_X2_blockNumber := hts (.instanceMethod yX2_blockNumber) (by decide +kernel)
  have hse_X2_blockNumber := hts (.selects RX2 yX2_blockNumber yX2_blockNumber) (by decide +kernel)
  have hini_X0 := hts (.initialized RX0) (by decide +kernel)
  have him_X0_giveBack := hts (.instanceMethod yX0_giveBack) (by decide +kernel)
  have hse_X0_giveBack := hts (.selects RX0 yX0_giveBack yX0_giveBack) (by decide +kernel)
  refine lv_iconst (v := nI 0) hx hb dX4_giveBackBlocks_0 (by decide) ?_
  refine lv_istore_n (lv' := [(2, .int (nI 0)), (0, .ref h0), (1, .int (nI en))]) hx hb dX4_giveBackBlocks_1 rfl hl (by decide) rfl (fun ls hl => ?_)
  have loop_1 : ∀ (n k : Nat), k ≤ 7 → 7 + 1 ≤ k + n → ∀ (H : Heap) (locs : List Loc), va_P dd vwCl [(h0, .inr (4, [.ref q1, .ref q2, .ref q3, .ref qs, .ref qh])), (q1, .inr (3, [.ref q4, .int (bI le), .int (nI wl), .int wd])), (q4, .inl (cI, 4096, .inl (aN D))), (q2, .inr (2, [.ref q1, .ref qd, .ref qt, .int (nI U)])), (q3, .inr (0, [.ref qn])), (qn, .inl (cZ, 64, .inl (aB (gbB D en T k))))] H → va_D A [(h0, .inr (4, [.ref q1, .ref q2, .ref q3, .ref qs, .ref qh])), (q1, .inr (3, [.ref q4, .int (bI le), .int (nI wl), .int wd])), (q4, .inl (cI, 4096, .inl (aN D))), (q2, .inr (2, [.ref q1, .ref qd, .ref qt, .int (nI U)])), (q3, .inr (0, [.ref qn])), (qn, .inl (cZ, 64, .inl (aB (gbB D en T k))))] → va_S A s.heap H locs → ∀ ls : Array Slot, lv_has ls 3 [(2, .int (nI k)), (0, .ref h0), (1, .int (nI en))] → W p l e (({ frames := 2, cells := 0, slots := 0, locals := 44 } : Room)) s m ([.ref h0, .int (nI en)] : List Value).toArray below meth c H locs 0 0 (MQ below (va_Qv (fun u : Unit => True) (fun u t => qa dd A [(h0, .inr (4, [.ref q1, .ref q2, .ref q3, .ref qs, .ref qh])), (q1, .inr (3, [.ref q4, .int (bI le), .int (nI wl), .int wd])), (q4, .inl (cI, 4096, .inl (aN D))), (q2, .inr (2, [.ref q1, .ref qd, .ref qt, .int (nI U)])), (q3, .inr (0, [.ref qn])), (qn, .inl (cZ, 64, .inl (aB (gbB D en T 7))))] t) A) ([.ref h0, .int (nI en)] : List Value).toArray s 0 0 A) (F0 m 2 ls []) := by
    intro n
    induction n with
    | zero => intro k h1 h2; exact absurd h2 (by omega)
    | succ n ih =>
      intro k hk_k hn_k H locs hP hD hS ls hl
      have ih_2 := ih
      refine lv_iload_n hx hb dX4_giveBackBlocks_2 rfl (lv_at hl 0 rfl) ?_
      refine lv_bipush (v := nI 7) hx hb dX4_giveBackBlocks_3 (by decide) ?_
      refine nr_ge (tgt := 30) hx hb (by omega) (by omega) dX4_giveBackBlocks_5 (by decide) (fun c_5 => ?_) (fun c_5 => ?_)
      · have ek_k : k = 7 := by omega
        subst ek_k
        have hP9 := hP.sub (ws' := [(h0, .inr (4, [.ref q1, .ref q2, .ref q3, .ref qs, .ref qh])), (q1, .inr (3, [.ref q4, .int (bI le), .int (nI wl), .int wd])), (q4, .inl (cI, 4096, .inl (aN D))), (q2, .inr (2, [.ref q1, .ref qd, .ref qt, .int (nI U)])), (q3, .inr (0, [.ref qn])), (qn, .inl (cZ, 64, .inl (aB (gbB D en T 7))))]) [0, 1, 2, 3, 4, 5] rfl
        have hD9 := hD.sub (ws' := [(h0, .inr (4, [.ref q1, .ref q2, .ref q3, .ref qs, .ref qh])), (q1, .inr (3, [.ref q4, .int (bI le), .int (nI wl), .int wd])), (q4, .inl (cI, 4096, .inl (aN D))), (q2, .inr (2, [.ref q1, .ref qd, .ref qt, .int (nI U)])), (q3, .inr (0, [.ref qn])), (qn, .inl (cZ, 64, .inl (aB (gbB D en T 7))))]) [0, 1, 2, 3, 4, 5] (by decide) rfl
        exact W.vret hx hb hr (fun t ht hW => ⟨⟨(), rfl, trivial, by rw [ht]; exact hP9, hD9⟩, hS.F ht⟩) hS.2.2 dX4_giveBackBlocks_30
      · refine lv_aload_n hx hb dX4_giveBackBlocks_8 rfl (lv_at hl 1 rfl) ?_
        refine va_get (D := dd) (ci := 4) (v := .ref q3) (C := RX4) (T := TX4) (N := 5) hx hb hts hin_X4 hown hK.1 hP 0 rfl rfl 2 (by decide) hf_28 (fun _ h9 => h9) rfl dX4_giveBackBlocks_9 ?_
        refine lv_aload_n hx hb dX4_giveBackBlocks_12 rfl (lv_at hl 1 rfl) ?_
        refine va_get (D := dd) (ci := 4) (v := .ref q2) (C := RX4) (T := TX4) (N := 5) hx hb hts hin_X4 hown hK.1 hP 0 rfl rfl 1 (by decide) hf_21 (fun _ h9 => h9) rfl dX4_giveBackBlocks_13 ?_
        refine lv_iload_n hx hb dX4_giveBackBlocks_16 rfl (lv_at hl 2 rfl) ?_
        refine lv_iload_n hx hb dX4_giveBackBlocks_17 rfl (lv_at hl 0 rfl) ?_
        refine cr_i (va_runVN (C := RX2) (As := [.int (nI en), .int (nI k)]) (rest := [.ref q3]) ⟨hx, hb, hml, hown, hts⟩ (kX2_blockNumber l dd cI cZ cR cJ q2 q1 qd qt U q4 le wl wd D en k (by omega) (by omega)) ⟨(va_cnB 2 hts gX4_giveBackBlocks_X2_blockNumber_n186 rfl rfl rfl (hK.2.at 23 rfl) hini_X2 (by decide +kernel) ⟨Nat.le_of_ble_eq_true rfl, Nat.le_of_ble_eq_true rfl⟩), him_X2_blockNumber, hse_X2_blockNumber⟩ (pv_c hK hP 3 rfl (ci := 2) rfl [3, 1, 2] rfl) rfl rfl hl.1 rfl (lv_room (Nat.le_of_ble_eq_true rfl)) dX4_giveBackBlocks_18 ⟨Nat.zero_le _, Nat.zero_le _⟩) ?_
        have hv := hDb (16 * en + k + 9)
        refine cm_v (wc := [(q3, .inr (0, [.ref qn])), (qn, .inl (cZ, 64, .inl (aB (gbB D en T k))))]) (wr := [(h0, .inr (4, [.ref q1, .ref q2, .ref q3, .ref qs, .ref qh])), (q1, .inr (3, [.ref q4, .int (bI le), .int (nI wl), .int wd])), (q4, .inl (cI, 4096, .inl (aN D))), (q2, .inr (2, [.ref q1, .ref qd, .ref qt, .int (nI U)]))]) (w1 := fun u : Unit => [(q3, .inr (0, [.ref qn])), (qn, .inl (cZ, 64, .inl (aB (va_up (gbB D en T k) ((D (16 * en + k + 9)) % 64) (decide ((D (16 * en + k + 9)) % 64 < 8))))))]) hP hD hS hA [4, 5] [0, 1, 2, 3] rfl rfl (by decide) (by decide) (va_runVN (C := RX0) (As := [.int (nI (D (16 * en + k + 9)))]) (rest := []) ⟨hx, hb, hml, hown, hts⟩ (kX0_giveBack l dd cI cZ cR cJ q3 qn (gbB D en T k) (D (16 * en + k + 9)) H.size (by omega)) ⟨(va_cnB 1 hts gX4_giveBackBlocks_X0_giveBack_n193 rfl rfl rfl (hK.2.at 38 rfl) hini_X0 (by decide +kernel) ⟨Nat.le_of_ble_eq_true rfl, Nat.le_of_ble_eq_true rfl⟩), him_X0_giveBack, hse_X0_giveBack⟩ (pv_m hK hP hD 4 rfl (ci := 0) rfl [4, 5] (by decide) rfl rfl) rfl rfl hl.1 rfl (lv_room (Nat.le_of_ble_eq_true rfl)) dX4_giveBackBlocks_21 ⟨Nat.zero_le _, Nat.zero_le _⟩) (fun u9 H locs hw hP hD hS => ?_)
        have hw_4 := hw
        try dsimp only at hw_4
        have hP : va_P dd vwCl [(h0, .inr (4, [.ref q1, .ref q2, .ref q3, .ref qs, .ref qh])), (q1, .inr (3, [.ref q4, .int (bI le), .int (nI wl), .int wd])), (q4, .inl (cI, 4096, .inl (aN D))), (q2, .inr (2, [.ref q1, .ref qd, .ref qt, .int (nI U)])), (q3, .inr (0, [.ref qn])), (qn, .inl (cZ, 64, .inl (aB (va_up (gbB D en T k) ((D (16 * en + k + 9)) % 64) (decide ((D (16 * en + k + 9)) % 64 < 8))))))] H := hP
        have hD : va_D A [(h0, .inr (4, [.ref q1, .ref q2, .ref q3, .ref qs, .ref qh])), (q1, .inr (3, [.ref q4, .int (bI le), .int (nI wl), .int wd])), (q4, .inl (cI, 4096, .inl (aN D))), (q2, .inr (2, [.ref q1, .ref qd, .ref qt, .int (nI U)])), (q3, .inr (0, [.ref qn])), (qn, .inl (cZ, 64, .inl (aB (va_up (gbB D en T k) ((D (16 * en + k + 9)) % 64) (decide ((D (16 * en + k + 9)) % 64 < 8))))))] := hD
        refine lv_iinc (v := nI (k + 1)) (lv' := [(2, .int (nI (k + 1))), (0, .ref h0), (1, .int (nI en))]) hx hb dX4_giveBackBlocks_24 hl (k := 0) rfl (nr_inc _ _ (by omega)) (by decide) rfl (fun ls hl => ?_)
        refine lv_goto (tgt := 2) hx hb dX4_giveBackBlocks_27 (by decide) ?_
        exact ih_2 (k + 1) (by omega) (by omega) _ _ hP hD hS ls (lv_sub hl [0, 1, 2] rfl)
  exact loop_1 (7 + 1) 0 (by omega) (by omega) _ _ hP hD hS ls (lv_sub hl [0, 1, 2] rfl)

set_option maxHeartbeats 4000000 in
set_option maxRecDepth 100000 in
theorem kX4_takeToldBlocks (l : Launch) (dd : va_G) (cI cZ cR cJ : ClassId) (h0 : Nat) (q1 : Nat) (q2 : Nat) (q3 : Nat) (qs : Nat) (qh : Nat) (q4 : Nat) (le : Bool) (wl : Nat) (wd : Int32) (D : Nat → Nat) (qd : Nat) (qt : Nat) (U : Nat) (qn : Nat) (T : Nat → Bool) (sz : Nat) (hDb : ∀ j, D j < 256) : Met l yX4_takeToldBlocks wsX4_takeToldBlocks ({ frames := 3, cells := 0, slots := 0, locals := 66 }) (va_Pc [.ref h0] (qm dd cI cZ cR cJ sz [(h0, .inr (4, [.ref q1, .ref q2, .ref q3, .ref qs, .ref qh])), (q1, .inr (3, [.ref q4, .int (bI le), .int (nI wl), .int wd])), (q4, .inl (cI, 4096, .inl (aN D))), (q2, .inr (2, [.ref q1, .ref qd, .ref qt, .int (nI U)])), (q3, .inr (0, [.ref qn])), (qn, .inl (cZ, 64, .inl (aB T)))])) (va_Qv (fun u : Unit => True) (fun u t => qa dd (va_A [(h0, .inr (4, [.ref q1, .ref q2, .ref q3, .ref qs, .ref qh])), (q1, .inr (3, [.ref q4, .int (bI le), .int (nI wl), .int wd])), (q4, .inl (cI, 4096, .inl (aN D))), (q2, .inr (2, [.ref q1, .ref qd, .ref qt, .int (nI U)])), (q3, .inr (0, [.ref qn])), (qn, .inl (cZ, 64, .inl (aB T)))] sz) [(h0, .inr (4, [.ref q1, .ref q2, .ref q3, .ref qs, .ref qh])), (q1, .inr (3, [.ref q4, .int (bI le), .int (nI wl), .int wd])), (q4, .inl (cI, 4096, .inl (aN D))), (q2, .inr (2, [.ref q1, .ref qd, .ref qt, .int (nI U)])), (q3, .inr (0, [.ref qn])), (qn, .inl (cZ, 64, .inl (aB (tkE D (clT T) 32))))] t) (va_A [(h0, .inr (4, [.ref q1, .ref q2, .ref q3, .ref qs, .ref qh])), (q1, .inr (3, [.ref q4, .int (bI le), .int (nI wl), .int wd])), (q4, .inl (cI, 4096, .inl (aN D))), (q2, .inr (2, [.ref q1, .ref qd, .ref qt, .int (nI U)])), (q3, .inr (0, [.ref qn])), (qn, .inl (cZ, 64, .inl (aB T)))] sz)) 0 0 (va_A [(h0, .inr (4, [.ref q1, .ref q2, .ref q3, .ref qs, .ref qh])), (q1, .inr (3, [.ref q4, .int (bI le), .int (nI wl), .int wd])), (q4, .inl (cI, 4096, .inl (aN D))), (q2, .inr (2, [.ref q1, .ref qd, .ref qt, .int (nI U)])), (q3, .inr (0, [.ref qn])), (qn, .inl (cZ, 64, .inl (aB T)))] sz) := by
  refine mk_mut (cc := cX4_takeToldBlocks) (maxL := 2) (ret := none) (Qf := fun A => va_Qv (fun u : Unit => True) (fun u t => qa dd A [(h0, .inr (4, [.ref q1, .ref q2, .ref q3, .ref qs, .ref qh])), (q1, .inr (3, [.ref q4, .int (bI le), .int (nI wl), .int wd])), (q4, .inl (cI, 4096, .inl (aN D))), (q2, .inr (2, [.ref q1, .ref qd, .ref qt, .int (nI U)])), (q3, .inr (0, [.ref qn])), (qn, .inl (cZ, 64, .inl (aB (tkE D (clT T) 32))))] t) A) (by decide) rfl (Nat.le_of_ble_eq_true rfl) ?_
  intro p e s m below meth c A hx hb hr hts hown hlocks hml hin hP hD hA hS hK ls hl
  have hown : s.vm.findClass RX4 = some m.cls := hown
  have hl : lv_has ls 2 [(0, .ref h0)] := hl
  have hf_28 := hts (.fieldLink RX4 28 "RecordSystem" "map" "LRecordSystem$BlockMap;") (by decide +kernel)
  have hin_X4 : ∀ w ∈ wsX40, w ∈ wsX4_takeToldBlocks := by decide +kernel
  have hini_X0 := hts (.initialized RX0) (by decide +kernel)
  have him_X0_clear := hts (.instanceMethod yX0_clear) (by decide +kernel)
  have hse_X0_clear := hts (.selects RX0 yX0_clear yX0_clear) (by decide +kernel)
  have hf_21 := hts (.fieldLink RX4 21 "RecordSystem" "directory" "LRecordSystem$Directory;") (by decide +kernel)
  have hini_X2 := hts (.initialized RX2) (by decide +kernel)
  have him_X2_isFree := hts (.instanceMethod yX2_isFree) (by decide +kernel)
  have hse_X2_isFree := hts (.selects RX2 yX2_isFree yX2_isFree) (by decide +kernel)
  refine lv_aload_n hx hb dX4_takeToldBlocks_0 rfl (lv_at hl 0 rfl) ?_
  refine va_get (D := dd) (ci := 4) (v := .ref q3) (C := RX4) (T := TX4) (N := 5) hx hb hts hin_X4 hown hK.1 hP 0 rfl rfl 2 (by decide) hf_28 (fun _ h9 => h9) rfl dX4_takeToldBlocks_1 ?_
  refine cm_v (wc := [(q3, .inr (0, [.ref qn])), (qn, .inl (cZ, 64, .inl (aB T)))]) (wr := [(h0, .inr (4, [.ref q1, .ref q2, .ref q3, .ref qs, .ref qh])), (q1, .inr (3, [.ref q4, .int (bI le), .int (nI wl), .int wd])), (q4, .inl (cI, 4096, .inl (aN D))), (q2, .inr (2, [.ref q1, .ref qd, .ref qt, .int (nI U)]))]) (w1 := fun u : Unit => [(q3, .inr (0, [.ref qn])), (qn, .inl (cZ, 64, .inl (aB (clT T))))]) hP hD hS hA [4, 5] [0, 1, 2, 3] rfl rfl (by decide) (by decide) (va_runVN (C := RX0) (As := []) (rest := []) ⟨hx, hb, hml, hown, hts⟩ (kX0_clear l dd cI cZ cR cJ q3 qn T s.heap.size) ⟨(va_cnB 0 hts gX4_takeToldBlocks_X0_clear_n177 rfl rfl rfl (hK.2.at 21 rfl) hini_X0 (by decide +kernel) ⟨Nat.le_of_ble_eq_true rfl, Nat.le_of_ble_eq_true rfl⟩), him_X0_clear, hse_X0_clear⟩ (pv_m hK hP hD 4 rfl (ci := 0) rfl [4, 5] (by decide) rfl rfl) rfl rfl hl.1 rfl (lv_room (Nat.le_of_ble_eq_true rfl)) dX4_takeToldBlocks_4 ⟨Nat.zero_le _, Nat.zero_le _⟩) (fun u9 H locs hw hP hD hS => ?_)
  have hw_2 := hw
  try dsimp only at hw_2
  have hP : va_P dd vwCl [(h0, .inr (4, [.ref q1, .ref q2, .ref q3, .ref qs, .ref qh])), (q1, .inr (3, [.ref q4, .int (bI le), .int (nI wl), .int wd])), (q4, .inl (cI, 4096, .inl (aN D))), (q2, .inr (2, [.ref q1, .ref qd, .ref qt, .int (nI U)])), (q3, .inr (0, [.ref qn])), (qn, .inl (cZ, 64, .inl (aB (clT T))))] H := hP
  have hD : va_D A [(h0, .inr (4, [.ref q1, .ref q2, .ref q3, .ref qs, .ref qh])), (q1, .inr (3, [.ref q4, .int (bI le), .int (nI wl), .int wd])), (q4, .inl (cI, 4096, .inl (aN D))), (q2, .inr (2, [.ref q1, .ref qd, .ref qt, .int (nI U)])), (q3, .inr (0, [.ref qn])), (qn, .inl (cZ, 64, .inl (aB (clT T))))] := hD
  refine lv_iconst (v := nI 0) hx hb dX4_takeToldBlocks_7 (by decide) ?_
  refine lv_istore_n (lv' := [(1, .int (nI 0)), (0, .ref h0)]) hx hb dX4_takeToldBlocks_8 rfl hl (by decide) rfl (fun ls hl => ?_)
  have loop_3 : ∀ (n k : Nat), k ≤ 32 → 32 + 1 ≤ k + n → ∀ (H : Heap) (locs : List Loc), va_P dd vwCl [(h0, .inr (4, [.ref q1, .ref q2, .ref q3, .ref qs, .ref qh])), (q1, .inr (3, [.ref q4, .int (bI le), .int (nI wl), .int wd])), (q4, .inl (cI, 4096, .inl (aN D))), (q2, .inr (2, [.ref q1, .ref qd, .ref qt, .int (nI U)])), (q3, .inr (0, [.ref qn])), (qn, .inl (cZ, 64, .inl (aB (tkE D (clT T) k))))] H → va_D A [(h0, .inr (4, [.ref q1, .ref q2, .ref q3, .ref qs, .ref qh])), (q1, .inr (3, [.ref q4, .int (bI le), .int (nI wl), .int wd])), (q4, .inl (cI, 4096, .inl (aN D))), (q2, .inr (2, [.ref q1, .ref qd, .ref qt, .int (nI U)])), (q3, .inr (0, [.ref qn])), (qn, .inl (cZ, 64, .inl (aB (tkE D (clT T) k))))] → va_S A s.heap H locs → ∀ ls : Array Slot, lv_has ls 2 [(1, .int (nI k)), (0, .ref h0)] → W p l e (({ frames := 3, cells := 0, slots := 0, locals := 66 } : Room)) s m ([.ref h0] : List Value).toArray below meth c H locs 0 0 (MQ below (va_Qv (fun u : Unit => True) (fun u t => qa dd A [(h0, .inr (4, [.ref q1, .ref q2, .ref q3, .ref qs, .ref qh])), (q1, .inr (3, [.ref q4, .int (bI le), .int (nI wl), .int wd])), (q4, .inl (cI, 4096, .inl (aN D))), (q2, .inr (2, [.ref q1, .ref qd, .ref qt, .int (nI U)])), (q3, .inr (0, [.ref qn])), (qn, .inl (cZ, 64, .inl (aB (tkE D (clT T) 32))))] t) A) ([.ref h0] : List Value).toArray s 0 0 A) (F0 m 9 ls []) := by
    intro n
    induction n with
    | zero => intro k h1 h2; exact absurd h2 (by omega)
    | succ n ih =>
      intro k hk_k hn_k H locs hP hD hS ls hl
      have ih_4 := ih
      refine lv_iload_n hx hb dX4_takeToldBlocks_9 rfl (lv_at hl 0 rfl) ?_
      refine lv_bipush (v := nI 32) hx hb dX4_takeToldBlocks_10 (by decide) ?_
      refine nr_ge (tgt := 37) hx hb (by omega) (by omega) dX4_takeToldBlocks_12 (by decide) (fun c_12 => ?_) (fun c_12 => ?_)
      · have ek_k : k = 32 := by omega
        subst ek_k
        have hP9 := hP.sub (ws' := [(h0, .inr (4, [.ref q1, .ref q2, .ref q3, .ref qs, .ref qh])), (q1, .inr (3, [.ref q4, .int (bI le), .int (nI wl), .int wd])), (q4, .inl (cI, 4096, .inl (aN D))), (q2, .inr (2, [.ref q1, .ref qd, .ref qt, .int (nI U)])), (q3, .inr (0, [.ref qn])), (qn, .inl (cZ, 64, .inl (aB (tkE D (clT T) 32))))]) [0, 1, 2, 3, 4, 5] rfl
        have hD9 := hD.sub (ws' := [(h0, .inr (4, [.ref q1, .ref q2, .ref q3, .ref qs, .ref qh])), (q1, .inr (3, [.ref q4, .int (bI le), .int (nI wl), .int wd])), (q4, .inl (cI, 4096, .inl (aN D))), (q2, .inr (2, [.ref q1, .ref qd, .ref qt, .int (nI U)])), (q3, .inr (0, [.ref qn])), (qn, .inl (cZ, 64, .inl (aB (tkE D (clT T) 32))))]) [0, 1, 2, 3, 4, 5] (by decide) rfl
        exact W.vret hx hb hr (fun t ht hW => ⟨⟨(), rfl, trivial, by rw [ht]; exact hP9, hD9⟩, hS.F ht⟩) hS.2.2 dX4_takeToldBlocks_37
      · refine lv_aload_n hx hb dX4_takeToldBlocks_15 rfl (lv_at hl 1 rfl) ?_
        refine va_get (D := dd) (ci := 4) (v := .ref q2) (C := RX4) (T := TX4) (N := 5) hx hb hts hin_X4 hown hK.1 hP 0 rfl rfl 1 (by decide) hf_21 (fun _ h9 => h9) rfl dX4_takeToldBlocks_16 ?_
        refine lv_iload_n hx hb dX4_takeToldBlocks_19 rfl (lv_at hl 0 rfl) ?_
        refine cr_i (va_runVN (C := RX2) (As := [.int (nI k)]) (rest := []) ⟨hx, hb, hml, hown, hts⟩ (kX2_isFree l dd cI cZ cR cJ q2 q1 qd qt U q4 le wl wd D k (by omega) hDb) ⟨(va_cnB 1 hts gX4_takeToldBlocks_X2_isFree_n180 rfl rfl rfl (hK.2.at 22 rfl) hini_X2 (by decide +kernel) ⟨Nat.le_of_ble_eq_true rfl, Nat.le_of_ble_eq_true rfl⟩), him_X2_isFree, hse_X2_isFree⟩ (pv_c hK hP 3 rfl (ci := 2) rfl [3, 1, 2] rfl) rfl rfl hl.1 rfl (lv_room (Nat.le_of_ble_eq_true rfl)) dX4_takeToldBlocks_20 ⟨Nat.zero_le _, Nat.zero_le _⟩) ?_
        refine br_if_ne (tgt := 31) hx hb dX4_takeToldBlocks_23 (by decide) (fun c_23 => ?_) (fun c_23 => ?_)
        · refine lv_iinc (v := nI (k + 1)) (lv' := [(1, .int (nI (k + 1))), (0, .ref h0)]) hx hb dX4_takeToldBlocks_31 hl (k := 0) rfl (nr_inc _ _ (by omega)) (by decide) rfl (fun ls hl => ?_)
          refine lv_goto (tgt := 9) hx hb dX4_takeToldBlocks_34 (by decide) ?_
          rw [show tkE D (clT T) k = tkE D (clT T) (k + 1) by simp [tkE, c_23]] at hP hD
          exact ih_4 (k + 1) (by omega) (by omega) _ _ hP hD hS ls (lv_sub hl [0, 1] rfl)
        · refine lv_aload_n hx hb dX4_takeToldBlocks_26 rfl (lv_at hl 1 rfl) ?_
          refine lv_iload_n hx hb dX4_takeToldBlocks_27 rfl (lv_at hl 0 rfl) ?_
          refine cm_v (wc := [(h0, .inr (4, [.ref q1, .ref q2, .ref q3, .ref qs, .ref qh])), (q1, .inr (3, [.ref q4, .int (bI le), .int (nI wl), .int wd])), (q4, .inl (cI, 4096, .inl (aN D))), (q2, .inr (2, [.ref q1, .ref qd, .ref qt, .int (nI U)])), (q3, .inr (0, [.ref qn])), (qn, .inl (cZ, 64, .inl (aB (tkE D (clT T) k))))]) (wr := []) (w1 := fun u : Unit => [(h0, .inr (4, [.ref q1, .ref q2, .ref q3, .ref qs, .ref qh])), (q1, .inr (3, [.ref q4, .int (bI le), .int (nI wl), .int wd])), (q4, .inl (cI, 4096, .inl (aN D))), (q2, .inr (2, [.ref q1, .ref qd, .ref qt, .int (nI U)])), (q3, .inr (0, [.ref qn])), (qn, .inl (cZ, 64, .inl (aB (tkB D k (tkE D (clT T) k) 7))))]) hP hD hS hA [0, 1, 2, 3, 4, 5] [] rfl rfl (by decide) (by decide) (va_runV (As := [.int (nI k)]) (rest := []) ⟨hx, hb, hml, hown, hts⟩ (kX4_takeBlocks l dd cI cZ cR cJ h0 q1 q2 q3 qs qh q4 le wl wd D qd qt U qn (tkE D (clT T) k) k H.size (by omega) hDb) (cwV 1 hts gX4_takeToldBlocks_X4_takeBlocks rfl rfl rfl (by decide +kernel) ⟨Nat.le_of_ble_eq_true rfl, Nat.le_of_ble_eq_true rfl⟩) (pv_m hK hP hD 0 rfl (ci := 4) rfl [0, 1, 2, 3, 4, 5] (by decide) rfl rfl) rfl rfl hl.1 rfl (lv_room (Nat.le_of_ble_eq_true rfl)) dX4_takeToldBlocks_28 ⟨Nat.zero_le _, Nat.zero_le _⟩) (fun u9 H locs hw hP hD hS => ?_)
          have hw_6 := hw
          try dsimp only at hw_6
          have hP : va_P dd vwCl [(h0, .inr (4, [.ref q1, .ref q2, .ref q3, .ref qs, .ref qh])), (q1, .inr (3, [.ref q4, .int (bI le), .int (nI wl), .int wd])), (q4, .inl (cI, 4096, .inl (aN D))), (q2, .inr (2, [.ref q1, .ref qd, .ref qt, .int (nI U)])), (q3, .inr (0, [.ref qn])), (qn, .inl (cZ, 64, .inl (aB (tkB D k (tkE D (clT T) k) 7))))] H := hP
          have hD : va_D A [(h0, .inr (4, [.ref q1, .ref q2, .ref q3, .ref qs, .ref qh])), (q1, .inr (3, [.ref q4, .int (bI le), .int (nI wl), .int wd])), (q4, .inl (cI, 4096, .inl (aN D))), (q2, .inr (2, [.ref q1, .ref qd, .ref qt, .int (nI U)])), (q3, .inr (0, [.ref qn])), (qn, .inl (cZ, 64, .inl (aB (tkB D k (tkE D (clT T) k) 7))))] := hD
          refine lv_iinc (v := nI (k + 1)) (lv' := [(1, .int (nI (k + 1))), (0, .ref h0)]) hx hb dX4_takeToldBlocks_31 hl (k := 0) rfl (nr_inc _ _ (by omega)) (by decide) rfl (fun ls hl => ?_)
          refine lv_goto (tgt := 9) hx hb dX4_takeToldBlocks_34 (by decide) ?_
          rw [show tkB D k (tkE D (clT T) k) 7 = tkE D (clT T) (k + 1) by simp [tkE, c_23]] at hP hD
          exact ih_4 (k + 1) (by omega) (by omega) _ _ hP hD hS ls (lv_sub hl [0, 1] rfl)
  exact loop_3 (32 + 1) 0 (by omega) (by omega) _ _ hP hD hS ls (lv_sub hl [0, 1] rfl)
