set_option maxHeartbeats 4000000 in
set_option maxRecDepth 100000 in
theorem kX2_fetchStretch (l : Launch) (dd : va_G) (cI cZ cR cJ : ClassId) (h0 : Nat) (q1 : Nat) (qd : Nat) (qt : Nat) (U : Nat) (q4 : Nat) (le : Bool) (wl : Nat) (wd : Int32) (D : Nat → Nat) (h5 : Nat) (qw : Nat) (qk : Nat) (op : Bool) (ro : Bool) (st : Nat) (ct : Nat) (pl : Nat) (bl : Nat → Nat) (en : Nat) (sz : Nat) (he : en < 32) : Met l yX2_fetchStretch wsX2_fetchStretch ({ frames := 2, cells := 0, slots := 0, locals := 44 }) (va_Pc [.ref h0, .int (nI en), .ref h5] (qm dd cI cZ cR cJ sz [(h0, .inr (2, [.ref q1, .ref qd, .ref qt, .int (nI U)])), (q1, .inr (3, [.ref q4, .int (bI le), .int (nI wl), .int wd])), (q4, .inl (cI, 4096, .inl (aN D))), (h5, .inr (1, [.ref qw, .ref qk, .int (bI op), .int (bI ro), .int (nI st), .int (nI ct), .int (nI pl)])), (qk, .inl (cI, 7, .inl (aN bl)))])) (va_Qv (fun u : Unit => True) (fun u t => qa dd (va_A [(h0, .inr (2, [.ref q1, .ref qd, .ref qt, .int (nI U)])), (q1, .inr (3, [.ref q4, .int (bI le), .int (nI wl), .int wd])), (q4, .inl (cI, 4096, .inl (aN D))), (h5, .inr (1, [.ref qw, .ref qk, .int (bI op), .int (bI ro), .int (nI st), .int (nI ct), .int (nI pl)])), (qk, .inl (cI, 7, .inl (aN bl)))] sz) [(h0, .inr (2, [.ref q1, .ref qd, .ref qt, .int (nI U)])), (q1, .inr (3, [.ref q4, .int (bI le), .int (nI wl), .int wd])), (q4, .inl (cI, 4096, .inl (aN D))), (h5, .inr (1, [.ref qw, .ref qk, .int (bI op), .int (bI ro), .int (nI (D (16 * en + 7))), .int (nI (D (16 * en + 8))), .int (nI 0)])), (qk, .inl (cI, 7, .inl (aN (va_cpy D bl (16 * en + 9) 0 7))))] t) (va_A [(h0, .inr (2, [.ref q1, .ref qd, .ref qt, .int (nI U)])), (q1, .inr (3, [.ref q4, .int (bI le), .int (nI wl), .int wd])), (q4, .inl (cI, 4096, .inl (aN D))), (h5, .inr (1, [.ref qw, .ref qk, .int (bI op), .int (bI ro), .int (nI st), .int (nI ct), .int (nI pl)])), (qk, .inl (cI, 7, .inl (aN bl)))] sz)) 0 0 (va_A [(h0, .inr (2, [.ref q1, .ref qd, .ref qt, .int (nI U)])), (q1, .inr (3, [.ref q4, .int (bI le), .int (nI wl), .int wd])), (q4, .inl (cI, 4096, .inl (aN D))), (h5, .inr (1, [.ref qw, .ref qk, .int (bI op), .int (bI ro), .int (nI st), .int (nI ct), .int (nI pl)])), (qk, .inl (cI, 7, .inl (aN bl)))] sz) := by
  refine mk_mut (cc := cX2_fetchStretch) (maxL := 4) (ret := none) (Qf := fun A => va_Qv (fun u : Unit => True) (fun u t => qa dd A [(h0, .inr (2, [.ref q1, .ref qd, .ref qt, .int (nI U)])), (q1, .inr (3, [.ref q4, .int (bI le), .int (nI wl), .int wd])), (q4, .inl (cI, 4096, .inl (aN D))), (h5, .inr (1, [.ref qw, .ref qk, .int (bI op), .int (bI ro), .int (nI (D (16 * en + 7))), .int (nI (D (16 * en + 8))), .int (nI 0)])), (qk, .inl (cI, 7, .inl (aN (va_cpy D bl (16 * en + 9) 0 7))))] t) A) (by decide) rfl (Nat.le_of_ble_eq_true rfl) ?_
  intro p e s m below meth c A hx hb hr hts hown hlocks hml hin hP hD hA hS hK ls hl
  have hown : s.vm.findClass RX2 = some m.cls := hown
  have hl : lv_has ls 4 [(0, .ref h0), (1, .int (nI en)), (2, .ref h5)] := hl
  have hin_X1 : ∀ w ∈ wsX10, w ∈ wsX2_fetchStretch := by decide +kernel
  refine lv_aload_n hx hb dX2_fetchStretch_0 rfl (lv_at hl 2 rfl) ?_
  refine lv_aload_n hx hb dX2_fetchStretch_1 rfl (lv_at hl 0 rfl) ?_
  refine lv_iload_n hx hb dX2_fetchStretch_2 rfl (lv_at hl 1 rfl) ?_
  refine lv_bipush (v := nI 7) hx hb dX2_fetchStretch_3 (by decide) ?_
  refine cr_i (va_runV (As := [.int (nI en), .int (nI 7)]) (rest := [.ref h5]) ⟨hx, hb, hml, hown, hts⟩ (kX2_byteAt l dd cI cZ cR cJ h0 q1 qd qt U q4 le wl wd D en 7 (by omega) (by omega)) (cwV 2 hts gX2_fetchStretch_X2_byteAt rfl rfl rfl (by decide +kernel) ⟨Nat.le_of_ble_eq_true rfl, Nat.le_of_ble_eq_true rfl⟩) (pv_c hK hP 0 rfl (ci := 2) rfl [0, 1, 2] rfl) rfl rfl hl.1 rfl (lv_room (Nat.le_of_ble_eq_true rfl)) dX2_fetchStretch_5 ⟨Nat.zero_le _, Nat.zero_le _⟩) ?_
  refine va_putN (D := dd) (ci := 1) (v := .int (nI (D (16 * en + 7)))) (ty := .int) (C := RX1) (T := TX1) (N := 7) hx hb hts hin_X1 tyX1 tyX1_ok nmX1 hown hK.1 hP hD hS 3 rfl rfl 4 (by decide) (hK.2.use 14 rfl) (fun _ h9 => h9) rfl (by decide +kernel) rfl rfl (Nat.le_of_ble_eq_true rfl) dX2_fetchStretch_8 (fun H locs hP hD hS => ?_)
  have hP : va_P dd vwCl [(h0, .inr (2, [.ref q1, .ref qd, .ref qt, .int (nI U)])), (q1, .inr (3, [.ref q4, .int (bI le), .int (nI wl), .int wd])), (q4, .inl (cI, 4096, .inl (aN D))), (h5, .inr (1, [.ref qw, .ref qk, .int (bI op), .int (bI ro), .int (nI (D (16 * en + 7))), .int (nI ct), .int (nI pl)])), (qk, .inl (cI, 7, .inl (aN bl)))] H := hP
  have hD : va_D A [(h0, .inr (2, [.ref q1, .ref qd, .ref qt, .int (nI U)])), (q1, .inr (3, [.ref q4, .int (bI le), .int (nI wl), .int wd])), (q4, .inl (cI, 4096, .inl (aN D))), (h5, .inr (1, [.ref qw, .ref qk, .int (bI op), .int (bI ro), .int (nI (D (16 * en + 7))), .int (nI ct), .int (nI pl)])), (qk, .inl (cI, 7, .inl (aN bl)))] := hD
  refine lv_aload_n hx hb dX2_fetchStretch_11 rfl (lv_at hl 2 rfl) ?_
  refine lv_aload_n hx hb dX2_fetchStretch_12 rfl (lv_at hl 0 rfl) ?_
  refine lv_iload_n hx hb dX2_fetchStretch_13 rfl (lv_at hl 1 rfl) ?_
  refine lv_bipush (v := nI 8) hx hb dX2_fetchStretch_14 (by decide) ?_
  refine cr_i (va_runV (As := [.int (nI en), .int (nI 8)]) (rest := [.ref h5]) ⟨hx, hb, hml, hown, hts⟩ (kX2_byteAt l dd cI cZ cR cJ h0 q1 qd qt U q4 le wl wd D en 8 (by omega) (by omega)) (cwV 2 hts gX2_fetchStretch_X2_byteAt rfl rfl rfl (by decide +kernel) ⟨Nat.le_of_ble_eq_true rfl, Nat.le_of_ble_eq_true rfl⟩) (pv_c hK hP 0 rfl (ci := 2) rfl [0, 1, 2] rfl) rfl rfl hl.1 rfl (lv_room (Nat.le_of_ble_eq_true rfl)) dX2_fetchStretch_16 ⟨Nat.zero_le _, Nat.zero_le _⟩) ?_
  refine va_putN (D := dd) (ci := 1) (v := .int (nI (D (16 * en + 8)))) (ty := .int) (C := RX1) (T := TX1) (N := 7) hx hb hts hin_X1 tyX1 tyX1_ok nmX1 hown hK.1 hP hD hS 3 rfl rfl 5 (by decide) (hK.2.use 16 rfl) (fun _ h9 => h9) rfl (by decide +kernel) rfl rfl (Nat.le_of_ble_eq_true rfl) dX2_fetchStretch_19 (fun H locs hP hD hS => ?_)
  have hP : va_P dd vwCl [(h0, .inr (2, [.ref q1, .ref qd, .ref qt, .int (nI U)])), (q1, .inr (3, [.ref q4, .int (bI le), .int (nI wl), .int wd])), (q4, .inl (cI, 4096, .inl (aN D))), (h5, .inr (1, [.ref qw, .ref qk, .int (bI op), .int (bI ro), .int (nI (D (16 * en + 7))), .int (nI (D (16 * en + 8))), .int (nI pl)])), (qk, .inl (cI, 7, .inl (aN bl)))] H := hP
  have hD : va_D A [(h0, .inr (2, [.ref q1, .ref qd, .ref qt, .int (nI U)])), (q1, .inr (3, [.ref q4, .int (bI le), .int (nI wl), .int wd])), (q4, .inl (cI, 4096, .inl (aN D))), (h5, .inr (1, [.ref qw, .ref qk, .int (bI op), .int (bI ro), .int (nI (D (16 * en + 7))), .int (nI (D (16 * en + 8))), .int (nI pl)])), (qk, .inl (cI, 7, .inl (aN bl)))] := hD
  refine lv_aload_n hx hb dX2_fetchStretch_22 rfl (lv_at hl 2 rfl) ?_
  refine lv_iconst (v := nI 0) hx hb dX2_fetchStretch_23 (by decide) ?_
  refine va_putN (D := dd) (ci := 1) (v := .int (nI 0)) (ty := .int) (C := RX1) (T := TX1) (N := 7) hx hb hts hin_X1 tyX1 tyX1_ok nmX1 hown hK.1 hP hD hS 3 rfl rfl 6 (by decide) (hK.2.use 19 rfl) (fun _ h9 => h9) rfl (by decide +kernel) rfl rfl (Nat.le_of_ble_eq_true rfl) dX2_fetchStretch_24 (fun H locs hP hD hS => ?_)
  have hP : va_P dd vwCl [(h0, .inr (2, [.ref q1, .ref qd, .ref qt, .int (nI U)])), (q1, .inr (3, [.ref q4, .int (bI le), .int (nI wl), .int wd])), (q4, .inl (cI, 4096, .inl (aN D))), (h5, .inr (1, [.ref qw, .ref qk, .int (bI op), .int (bI ro), .int (nI (D (16 * en + 7))), .int (nI (D (16 * en + 8))), .int (nI 0)])), (qk, .inl (cI, 7, .inl (aN bl)))] H := hP
  have hD : va_D A [(h0, .inr (2, [.ref q1, .ref qd, .ref qt, .int (nI U)])), (q1, .inr (3, [.ref q4, .int (bI le), .int (nI wl), .int wd])), (q4, .inl (cI, 4096, .inl (aN D))), (h5, .inr (1, [.ref qw, .ref qk, .int (bI op), .int (bI ro), .int (nI (D (16 * en + 7))), .int (nI (D (16 * en + 8))), .int (nI 0)])), (qk, .inl (cI, 7, .inl (aN bl)))] := hD
  refine lv_iconst (v := nI 0) hx hb dX2_fetchStretch_27 (by decide) ?_
  refine lv_istore_n (lv' := [(3, .int (nI 0)), (0, .ref h0), (1, .int (nI en)), (2, .ref h5)]) hx hb dX2_fetchStretch_28 rfl hl (by decide) rfl (fun ls hl => ?_)
  have loop_1 : ∀ (n k : Nat), k ≤ 7 → 7 + 1 ≤ k + n → ∀ (H : Heap) (locs : List Loc), va_P dd vwCl [(h0, .inr (2, [.ref q1, .ref qd, .ref qt, .int (nI U)])), (q1, .inr (3, [.ref q4, .int (bI le), .int (nI wl), .int wd])), (q4, .inl (cI, 4096, .inl (aN D))), (h5, .inr (1, [.ref qw, .ref qk, .int (bI op), .int (bI ro), .int (nI (D (16 * en + 7))), .int (nI (D (16 * en + 8))), .int (nI 0)])), (qk, .inl (cI, 7, .inl (aN (va_cpy D bl (16 * en + 9) 0 k))))] H → va_D A [(h0, .inr (2, [.ref q1, .ref qd, .ref qt, .int (nI U)])), (q1, .inr (3, [.ref q4, .int (bI le), .int (nI wl), .int wd])), (q4, .inl (cI, 4096, .inl (aN D))), (h5, .inr (1, [.ref qw, .ref qk, .int (bI op), .int (bI ro), .int (nI (D (16 * en + 7))), .int (nI (D (16 * en + 8))), .int (nI 0)])), (qk, .inl (cI, 7, .inl (aN (va_cpy D bl (16 * en + 9) 0 k))))] → va_S A s.heap H locs → ∀ ls : Array Slot, lv_has ls 4 [(3, .int (nI k)), (0, .ref h0), (1, .int (nI en)), (2, .ref h5)] → W p l e (({ frames := 2, cells := 0, slots := 0, locals := 44 } : Room)) s m ([.ref h0, .int (nI en), .ref h5] : List Value).toArray below meth c H locs 0 0 (MQ below (va_Qv (fun u : Unit => True) (fun u t => qa dd A [(h0, .inr (2, [.ref q1, .ref qd, .ref qt, .int (nI U)])), (q1, .inr (3, [.ref q4, .int (bI le), .int (nI wl), .int wd])), (q4, .inl (cI, 4096, .inl (aN D))), (h5, .inr (1, [.ref qw, .ref qk, .int (bI op), .int (bI ro), .int (nI (D (16 * en + 7))), .int (nI (D (16 * en + 8))), .int (nI 0)])), (qk, .inl (cI, 7, .inl (aN (va_cpy D bl (16 * en + 9) 0 7))))] t) A) ([.ref h0, .int (nI en), .ref h5] : List Value).toArray s 0 0 A) (F0 m 29 ls []) := by
    intro n
    induction n with
    | zero => intro k h1 h2; exact absurd h2 (by omega)
    | succ n ih =>
      intro k hk_k hn_k H locs hP hD hS ls hl
      have ih_2 := ih
      refine lv_iload_n hx hb dX2_fetchStretch_29 rfl (lv_at hl 0 rfl) ?_
      refine lv_bipush (v := nI 7) hx hb dX2_fetchStretch_30 (by decide) ?_
      refine nr_ge (tgt := 53) hx hb (by omega) (by omega) dX2_fetchStretch_32 (by decide) (fun c_32 => ?_) (fun c_32 => ?_)
      · have ek_k : k = 7 := by omega
        subst ek_k
        have hP9 := hP.sub (ws' := [(h0, .inr (2, [.ref q1, .ref qd, .ref qt, .int (nI U)])), (q1, .inr (3, [.ref q4, .int (bI le), .int (nI wl), .int wd])), (q4, .inl (cI, 4096, .inl (aN D))), (h5, .inr (1, [.ref qw, .ref qk, .int (bI op), .int (bI ro), .int (nI (D (16 * en + 7))), .int (nI (D (16 * en + 8))), .int (nI 0)])), (qk, .inl (cI, 7, .inl (aN (va_cpy D bl (16 * en + 9) 0 7))))]) [0, 1, 2, 3, 4] rfl
        have hD9 := hD.sub (ws' := [(h0, .inr (2, [.ref q1, .ref qd, .ref qt, .int (nI U)])), (q1, .inr (3, [.ref q4, .int (bI le), .int (nI wl), .int wd])), (q4, .inl (cI, 4096, .inl (aN D))), (h5, .inr (1, [.ref qw, .ref qk, .int (bI op), .int (bI ro), .int (nI (D (16 * en + 7))), .int (nI (D (16 * en + 8))), .int (nI 0)])), (qk, .inl (cI, 7, .inl (aN (va_cpy D bl (16 * en + 9) 0 7))))]) [0, 1, 2, 3, 4] (by decide) rfl
        exact W.vret hx hb hr (fun t ht hW => ⟨⟨(), rfl, trivial, by rw [ht]; exact hP9, hD9⟩, hS.F ht⟩) hS.2.2 dX2_fetchStretch_53
      · refine lv_aload_n hx hb dX2_fetchStretch_35 rfl (lv_at hl 3 rfl) ?_
        refine va_getN (D := dd) (ci := 1) (v := .ref qk) (C := RX1) (T := TX1) (N := 7) hx hb hts hin_X1 hown hK.1 hP 3 rfl rfl 1 (by decide) (hK.2.use 10 rfl) (fun _ h9 => h9) rfl dX2_fetchStretch_36 ?_
        refine lv_iload_n hx hb dX2_fetchStretch_39 rfl (lv_at hl 0 rfl) ?_
        refine lv_aload_n hx hb dX2_fetchStretch_40 rfl (lv_at hl 1 rfl) ?_
        refine lv_iload_n hx hb dX2_fetchStretch_41 rfl (lv_at hl 2 rfl) ?_
        refine lv_iload_n hx hb dX2_fetchStretch_42 rfl (lv_at hl 0 rfl) ?_
        refine cr_i (va_runV (As := [.int (nI en), .int (nI k)]) (rest := [.int (nI k), .ref qk]) ⟨hx, hb, hml, hown, hts⟩ (kX2_blockNumber l dd cI cZ cR cJ h0 q1 qd qt U q4 le wl wd D en k (by omega) (by omega)) (cwV 2 hts gX2_fetchStretch_X2_blockNumber rfl rfl rfl (by decide +kernel) ⟨Nat.le_of_ble_eq_true rfl, Nat.le_of_ble_eq_true rfl⟩) (pv_c hK hP 0 rfl (ci := 2) rfl [0, 1, 2] rfl) rfl rfl hl.1 rfl (lv_room (Nat.le_of_ble_eq_true rfl)) dX2_fetchStretch_43 ⟨Nat.zero_le _, Nat.zero_le _⟩) ?_
        refine nr_iast (f := va_cpy D bl (16 * en + 9) 0 k) (v := D (16 * en + k + 9)) hx hb hK hP hD hS 4 rfl (by omega) (by decide) dX2_fetchStretch_46 (fun H locs hP hD hS => ?_)
        have hP : va_P dd vwCl [(h0, .inr (2, [.ref q1, .ref qd, .ref qt, .int (nI U)])), (q1, .inr (3, [.ref q4, .int (bI le), .int (nI wl), .int wd])), (q4, .inl (cI, 4096, .inl (aN D))), (h5, .inr (1, [.ref qw, .ref qk, .int (bI op), .int (bI ro), .int (nI (D (16 * en + 7))), .int (nI (D (16 * en + 8))), .int (nI 0)])), (qk, .inl (cI, 7, .inl (aN (va_up (va_cpy D bl (16 * en + 9) 0 k) k (D (16 * en + k + 9))))))] H := hP
        have hD : va_D A [(h0, .inr (2, [.ref q1, .ref qd, .ref qt, .int (nI U)])), (q1, .inr (3, [.ref q4, .int (bI le), .int (nI wl), .int wd])), (q4, .inl (cI, 4096, .inl (aN D))), (h5, .inr (1, [.ref qw, .ref qk, .int (bI op), .int (bI ro), .int (nI (D (16 * en + 7))), .int (nI (D (16 * en + 8))), .int (nI 0)])), (qk, .inl (cI, 7, .inl (aN (va_up (va_cpy D bl (16 * en + 9) 0 k) k (D (16 * en + k + 9))))))] := hD
        have hu_3 : va_up (va_cpy D bl (16 * en + 9) 0 k) k (D (16 * en + k + 9)) = va_cpy D bl (16 * en + 9) 0 (k + 1) := cpy_up (by omega) (by congr 1; omega)
        rw [hu_3] at hP hD
        refine lv_iinc (v := nI (k + 1)) (lv' := [(3, .int (nI (k + 1))), (0, .ref h0), (1, .int (nI en)), (2, .ref h5)]) hx hb dX2_fetchStretch_47 hl (k := 0) rfl (nr_inc _ _ (by omega)) (by decide) rfl (fun ls hl => ?_)
        refine lv_goto (tgt := 29) hx hb dX2_fetchStretch_50 (by decide) ?_
        exact ih_2 (k + 1) (by omega) (by omega) _ _ hP hD hS ls (lv_sub hl [0, 1, 2, 3] rfl)
  exact loop_1 (7 + 1) 0 (by omega) (by omega) _ _ (by rw [cpy_0]; exact hP) (by rw [cpy_0]; exact hD) hS ls (lv_sub hl [0, 1, 2, 3] rfl)

set_option maxHeartbeats 4000000 in
set_option maxRecDepth 100000 in
theorem kX2_putDraft (l : Launch) (dd : va_G) (cI cZ cR cJ : ClassId) (h0 : Nat) (q1 : Nat) (qd : Nat) (qt : Nat) (U : Nat) (q4 : Nat) (le : Bool) (wl : Nat) (wd : Int32) (D : Nat → Nat) (dr : Nat → Nat) (h5 : Nat) (qw : Nat) (qk : Nat) (op : Bool) (ro : Bool) (st : Nat) (ct : Nat) (pl : Nat) (bl : Nat → Nat) (en : Nat) (sz : Nat) (he : en < 32) (hwl : wl ≤ 1000) : Met l yX2_putDraft wsX2_putDraft ({ frames := 1, cells := 0, slots := 0, locals := 23 }) (va_Pc [.ref h0, .int (nI en), .ref h5] (qm dd cI cZ cR cJ sz [(h0, .inr (2, [.ref q1, .ref qd, .ref qt, .int (nI U)])), (q1, .inr (3, [.ref q4, .int (bI le), .int (nI wl), .int wd])), (q4, .inl (cI, 4096, .inl (aN D))), (qd, .inl (cI, 16, .inl (aN dr))), (h5, .inr (1, [.ref qw, .ref qk, .int (bI op), .int (bI ro), .int (nI st), .int (nI ct), .int (nI pl)])), (qk, .inl (cI, 7, .inl (aN bl)))])) (va_Qi (fun (r : Int32) (u : Bool × (Nat → Nat) × Nat × Int32) => r = bI u.1 ∧ ((u.1, u.2.1, u.2.2.1, u.2.2.2) = mPut le wl wd D en (pdR bl ct dr))) (fun u t => qa dd (va_A [(h0, .inr (2, [.ref q1, .ref qd, .ref qt, .int (nI U)])), (q1, .inr (3, [.ref q4, .int (bI le), .int (nI wl), .int wd])), (q4, .inl (cI, 4096, .inl (aN D))), (qd, .inl (cI, 16, .inl (aN dr))), (h5, .inr (1, [.ref qw, .ref qk, .int (bI op), .int (bI ro), .int (nI st), .int (nI ct), .int (nI pl)])), (qk, .inl (cI, 7, .inl (aN bl)))] sz) [(h0, .inr (2, [.ref q1, .ref qd, .ref qt, .int (nI U)])), (q1, .inr (3, [.ref q4, .int (bI le), .int (nI (u.2.2.1)), .int u.2.2.2])), (q4, .inl (cI, 4096, .inl (aN u.2.1))), (qd, .inl (cI, 16, .inl (aN (pdR bl ct dr)))), (h5, .inr (1, [.ref qw, .ref qk, .int (bI op), .int (bI ro), .int (nI st), .int (nI ct), .int (nI pl)])), (qk, .inl (cI, 7, .inl (aN bl)))] t) (va_A [(h0, .inr (2, [.ref q1, .ref qd, .ref qt, .int (nI U)])), (q1, .inr (3, [.ref q4, .int (bI le), .int (nI wl), .int wd])), (q4, .inl (cI, 4096, .inl (aN D))), (qd, .inl (cI, 16, .inl (aN dr))), (h5, .inr (1, [.ref qw, .ref qk, .int (bI op), .int (bI ro), .int (nI st), .int (nI ct), .int (nI pl)])), (qk, .inl (cI, 7, .inl (aN bl)))] sz)) 0 0 (va_A [(h0, .inr (2, [.ref q1, .ref qd, .ref qt, .int (nI U)])), (q1, .inr (3, [.ref q4, .int (bI le), .int (nI wl), .int wd])), (q4, .inl (cI, 4096, .inl (aN D))), (qd, .inl (cI, 16, .inl (aN dr))), (h5, .inr (1, [.ref qw, .ref qk, .int (bI op), .int (bI ro), .int (nI st), .int (nI ct), .int (nI pl)])), (qk, .inl (cI, 7, .inl (aN bl)))] sz) := by
  refine mk_mut (cc := cX2_putDraft) (maxL := 4) (ret := (some .boolean)) (Qf := fun A => va_Qi (fun (r : Int32) (u : Bool × (Nat → Nat) × Nat × Int32) => r = bI u.1 ∧ ((u.1, u.2.1, u.2.2.1, u.2.2.2) = mPut le wl wd D en (pdR bl ct dr))) (fun u t => qa dd A [(h0, .inr (2, [.ref q1, .ref qd, .ref qt, .int (nI U)])), (q1, .inr (3, [.ref q4, .int (bI le), .int (nI (u.2.2.1)), .int u.2.2.2])), (q4, .inl (cI, 4096, .inl (aN u.2.1))), (qd, .inl (cI, 16, .inl (aN (pdR bl ct dr)))), (h5, .inr (1, [.ref qw, .ref qk, .int (bI op), .int (bI ro), .int (nI st), .int (nI ct), .int (nI pl)])), (qk, .inl (cI, 7, .inl (aN bl)))] t) A) (by decide) rfl (Nat.le_of_ble_eq_true rfl) ?_
  intro p e s m below meth c A hx hb hr hts hown hlocks hml hin hP hD hA hS hK ls hl
  have hown : s.vm.findClass RX2 = some m.cls := hown
  have hl : lv_has ls 4 [(0, .ref h0), (1, .int (nI en)), (2, .ref h5)] := hl
  have hf_9 := hts (.fieldLink RX2 9 "RecordSystem$Directory" "draft" "[I") (by decide +kernel)
  have hin_X2 : ∀ w ∈ wsX20, w ∈ wsX2_putDraft := by decide +kernel
  have hin_X1 : ∀ w ∈ wsX10, w ∈ wsX2_putDraft := by decide +kernel
  have hf_18 := hts (.fieldLink RX2 18 "RecordSystem$Directory" "store" "LRecordSystem$Disk;") (by decide +kernel)
  have hini_X3 := hts (.initialized RX3) (by decide +kernel)
  have him_X3_putRow := hts (.instanceMethod yX3_putRow) (by decide +kernel)
  have hse_X3_putRow := hts (.selects RX3 yX3_putRow yX3_putRow) (by decide +kernel)
  refine lv_aload_n hx hb dX2_putDraft_0 rfl (lv_at hl 0 rfl) ?_
  refine va_get (D := dd) (ci := 2) (v := .ref qd) (C := RX2) (T := TX2) (N := 4) hx hb hts hin_X2 hown hK.1 hP 0 rfl rfl 1 (by decide) hf_9 (fun _ h9 => h9) rfl dX2_putDraft_1 ?_
  refine lv_bipush (v := nI 8) hx hb dX2_putDraft_4 (by decide) ?_
  refine lv_aload_n hx hb dX2_putDraft_6 rfl (lv_at hl 2 rfl) ?_
  refine va_getN (D := dd) (ci := 1) (v := .int (nI ct)) (C := RX1) (T := TX1) (N := 7) hx hb hts hin_X1 hown hK.1 hP 4 rfl rfl 5 (by decide) (hK.2.use 16 rfl) (fun _ h9 => h9) rfl dX2_putDraft_7 ?_
  refine nr_iast (f := dr) (v := ct) hx hb hK hP hD hS 3 rfl (by omega) (by decide) dX2_putDraft_10 (fun H locs hP hD hS => ?_)
  have hP : va_P dd vwCl [(h0, .inr (2, [.ref q1, .ref qd, .ref qt, .int (nI U)])), (q1, .inr (3, [.ref q4, .int (bI le), .int (nI wl), .int wd])), (q4, .inl (cI, 4096, .inl (aN D))), (qd, .inl (cI, 16, .inl (aN (va_up dr 8 ct)))), (h5, .inr (1, [.ref qw, .ref qk, .int (bI op), .int (bI ro), .int (nI st), .int (nI ct), .int (nI pl)])), (qk, .inl (cI, 7, .inl (aN bl)))] H := hP
  have hD : va_D A [(h0, .inr (2, [.ref q1, .ref qd, .ref qt, .int (nI U)])), (q1, .inr (3, [.ref q4, .int (bI le), .int (nI wl), .int wd])), (q4, .inl (cI, 4096, .inl (aN D))), (qd, .inl (cI, 16, .inl (aN (va_up dr 8 ct)))), (h5, .inr (1, [.ref qw, .ref qk, .int (bI op), .int (bI ro), .int (nI st), .int (nI ct), .int (nI pl)])), (qk, .inl (cI, 7, .inl (aN bl)))] := hD
  refine lv_iconst (v := nI 0) hx hb dX2_putDraft_11 (by decide) ?_
  refine lv_istore_n (lv' := [(3, .int (nI 0)), (0, .ref h0), (1, .int (nI en)), (2, .ref h5)]) hx hb dX2_putDraft_12 rfl hl (by decide) rfl (fun ls hl => ?_)
  have loop_1 : ∀ (n k : Nat), k ≤ 7 → 7 + 1 ≤ k + n → ∀ (H : Heap) (locs : List Loc), va_P dd vwCl [(h0, .inr (2, [.ref q1, .ref qd, .ref qt, .int (nI U)])), (q1, .inr (3, [.ref q4, .int (bI le), .int (nI wl), .int wd])), (q4, .inl (cI, 4096, .inl (aN D))), (qd, .inl (cI, 16, .inl (aN (va_cpy bl (va_up dr 8 ct) 0 9 k)))), (h5, .inr (1, [.ref qw, .ref qk, .int (bI op), .int (bI ro), .int (nI st), .int (nI ct), .int (nI pl)])), (qk, .inl (cI, 7, .inl (aN bl)))] H → va_D A [(h0, .inr (2, [.ref q1, .ref qd, .ref qt, .int (nI U)])), (q1, .inr (3, [.ref q4, .int (bI le), .int (nI wl), .int wd])), (q4, .inl (cI, 4096, .inl (aN D))), (qd, .inl (cI, 16, .inl (aN (va_cpy bl (va_up dr 8 ct) 0 9 k)))), (h5, .inr (1, [.ref qw, .ref qk, .int (bI op), .int (bI ro), .int (nI st), .int (nI ct), .int (nI pl)])), (qk, .inl (cI, 7, .inl (aN bl)))] → va_S A s.heap H locs → ∀ ls : Array Slot, lv_has ls 4 [(3, .int (nI k)), (0, .ref h0), (1, .int (nI en)), (2, .ref h5)] → W p l e (({ frames := 1, cells := 0, slots := 0, locals := 23 } : Room)) s m ([.ref h0, .int (nI en), .ref h5] : List Value).toArray below meth c H locs 0 0 (MQ below (va_Qi (fun (r : Int32) (u : Bool × (Nat → Nat) × Nat × Int32) => r = bI u.1 ∧ ((u.1, u.2.1, u.2.2.1, u.2.2.2) = mPut le wl wd D en (pdR bl ct dr))) (fun u t => qa dd A [(h0, .inr (2, [.ref q1, .ref qd, .ref qt, .int (nI U)])), (q1, .inr (3, [.ref q4, .int (bI le), .int (nI (u.2.2.1)), .int u.2.2.2])), (q4, .inl (cI, 4096, .inl (aN u.2.1))), (qd, .inl (cI, 16, .inl (aN (pdR bl ct dr)))), (h5, .inr (1, [.ref qw, .ref qk, .int (bI op), .int (bI ro), .int (nI st), .int (nI ct), .int (nI pl)])), (qk, .inl (cI, 7, .inl (aN bl)))] t) A) ([.ref h0, .int (nI en), .ref h5] : List Value).toArray s 0 0 A) (F0 m 13 ls []) := by
    intro n
    induction n with
    | zero => intro k h1 h2; exact absurd h2 (by omega)
    | succ n ih =>
      intro k hk_k hn_k H locs hP hD hS ls hl
      have ih_2 := ih
      refine lv_iload_n hx hb dX2_putDraft_13 rfl (lv_at hl 0 rfl) ?_
      refine lv_bipush (v := nI 7) hx hb dX2_putDraft_14 (by decide) ?_
      refine nr_ge (tgt := 40) hx hb (by omega) (by omega) dX2_putDraft_16 (by decide) (fun c_16 => ?_) (fun c_16 => ?_)
      · have ek_k : k = 7 := by omega
        subst ek_k
        refine lv_aload_n hx hb dX2_putDraft_40 rfl (lv_at hl 1 rfl) ?_
        refine va_get (D := dd) (ci := 2) (v := .ref q1) (C := RX2) (T := TX2) (N := 4) hx hb hts hin_X2 hown hK.1 hP 0 rfl rfl 0 (by decide) hf_18 (fun _ h9 => h9) rfl dX2_putDraft_41 ?_
        refine lv_iload_n hx hb dX2_putDraft_44 rfl (lv_at hl 2 rfl) ?_
        refine lv_aload_n hx hb dX2_putDraft_45 rfl (lv_at hl 1 rfl) ?_
        refine va_get (D := dd) (ci := 2) (v := .ref qd) (C := RX2) (T := TX2) (N := 4) hx hb hts hin_X2 hown hK.1 hP 0 rfl rfl 1 (by decide) hf_9 (fun _ h9 => h9) rfl dX2_putDraft_46 ?_
        refine cm_i (wc := [(q1, .inr (3, [.ref q4, .int (bI le), .int (nI wl), .int wd])), (q4, .inl (cI, 4096, .inl (aN D))), (qd, .inl (cI, 16, .inl (aN (va_cpy bl (va_up dr 8 ct) 0 9 7))))]) (wr := [(h0, .inr (2, [.ref q1, .ref qd, .ref qt, .int (nI U)])), (h5, .inr (1, [.ref qw, .ref qk, .int (bI op), .int (bI ro), .int (nI st), .int (nI ct), .int (nI pl)])), (qk, .inl (cI, 7, .inl (aN bl)))]) (w1 := fun u : Bool × (Nat → Nat) × Nat × Int32 => [(q1, .inr (3, [.ref q4, .int (bI le), .int (nI (u.2.2.1)), .int u.2.2.2])), (q4, .inl (cI, 4096, .inl (aN u.2.1))), (qd, .inl (cI, 16, .inl (aN (va_cpy bl (va_up dr 8 ct) 0 9 7))))]) hP hD hS hA [1, 2, 3] [0, 4, 5] rfl rfl (by decide) (by decide) (va_runVN (C := RX3) (As := [.int (nI en), .ref qd]) (rest := []) ⟨hx, hb, hml, hown, hts⟩ (kX3_putRow l dd cI cZ cR cJ q1 q4 le wl wd D en qd (va_cpy bl (va_up dr 8 ct) 0 9 7) H.size (by omega) (by omega)) ⟨(va_cnB 2 hts gX2_putDraft_X3_putRow_n85 rfl rfl rfl (hK.2.at 33 rfl) hini_X3 (by decide +kernel) ⟨Nat.le_of_ble_eq_true rfl, Nat.le_of_ble_eq_true rfl⟩), him_X3_putRow, hse_X3_putRow⟩ (pv_m hK hP hD 1 rfl (ci := 3) rfl [1, 2, 3] (by decide) rfl rfl) rfl rfl hl.1 rfl (lv_room (Nat.le_of_ble_eq_true rfl)) dX2_putDraft_49 ⟨Nat.zero_le _, Nat.zero_le _⟩) (fun r_7 u9 H locs hw hP hD hS => ?_)
        obtain ⟨b_3, D_4, wl_5, wd_6⟩ := u9
        obtain ⟨hr9, hw_8⟩ := hw
        try dsimp only at hr9 hw_8
        subst hr9
        have hP : va_P dd vwCl [(h0, .inr (2, [.ref q1, .ref qd, .ref qt, .int (nI U)])), (h5, .inr (1, [.ref qw, .ref qk, .int (bI op), .int (bI ro), .int (nI st), .int (nI ct), .int (nI pl)])), (qk, .inl (cI, 7, .inl (aN bl))), (q1, .inr (3, [.ref q4, .int (bI le), .int (nI wl_5), .int wd_6])), (q4, .inl (cI, 4096, .inl (aN D_4))), (qd, .inl (cI, 16, .inl (aN (va_cpy bl (va_up dr 8 ct) 0 9 7))))] H := hP
        have hD : va_D A [(h0, .inr (2, [.ref q1, .ref qd, .ref qt, .int (nI U)])), (h5, .inr (1, [.ref qw, .ref qk, .int (bI op), .int (bI ro), .int (nI st), .int (nI ct), .int (nI pl)])), (qk, .inl (cI, 7, .inl (aN bl))), (q1, .inr (3, [.ref q4, .int (bI le), .int (nI wl_5), .int wd_6])), (q4, .inl (cI, 4096, .inl (aN D_4))), (qd, .inl (cI, 16, .inl (aN (va_cpy bl (va_up dr 8 ct) 0 9 7))))] := hD
        have hP9 := hP.sub (ws' := [(h0, .inr (2, [.ref q1, .ref qd, .ref qt, .int (nI U)])), (q1, .inr (3, [.ref q4, .int (bI le), .int (nI wl_5), .int wd_6])), (q4, .inl (cI, 4096, .inl (aN D_4))), (qd, .inl (cI, 16, .inl (aN (va_cpy bl (va_up dr 8 ct) 0 9 7)))), (h5, .inr (1, [.ref qw, .ref qk, .int (bI op), .int (bI ro), .int (nI st), .int (nI ct), .int (nI pl)])), (qk, .inl (cI, 7, .inl (aN bl)))]) [0, 3, 4, 5, 1, 2] rfl
        have hD9 := hD.sub (ws' := [(h0, .inr (2, [.ref q1, .ref qd, .ref qt, .int (nI U)])), (q1, .inr (3, [.ref q4, .int (bI le), .int (nI wl_5), .int wd_6])), (q4, .inl (cI, 4096, .inl (aN D_4))), (qd, .inl (cI, 16, .inl (aN (va_cpy bl (va_up dr 8 ct) 0 9 7)))), (h5, .inr (1, [.ref qw, .ref qk, .int (bI op), .int (bI ro), .int (nI st), .int (nI ct), .int (nI pl)])), (qk, .inl (cI, 7, .inl (aN bl)))]) [0, 3, 4, 5, 1, 2] (by decide) rfl
        exact W.zret (v := bI b_3) hx hb hr (bI_nar _) (fun t ht hW => ⟨⟨bI b_3, (b_3, D_4, wl_5, wd_6), rfl, ⟨rfl, hw_8⟩, by rw [ht]; exact hP9, hD9⟩, hS.F ht⟩) hS.2.2 dX2_putDraft_52
      · refine lv_aload_n hx hb dX2_putDraft_19 rfl (lv_at hl 1 rfl) ?_
        refine va_get (D := dd) (ci := 2) (v := .ref qd) (C := RX2) (T := TX2) (N := 4) hx hb hts hin_X2 hown hK.1 hP 0 rfl rfl 1 (by decide) hf_9 (fun _ h9 => h9) rfl dX2_putDraft_20 ?_
        refine lv_bipush (v := nI 9) hx hb dX2_putDraft_23 (by decide) ?_
        refine lv_iload_n hx hb dX2_putDraft_25 rfl (lv_at hl 0 rfl) ?_
        refine nr_iadd (k + 9) (by omega) hx hb dX2_putDraft_26 ?_
        refine lv_aload_n hx hb dX2_putDraft_27 rfl (lv_at hl 3 rfl) ?_
        refine va_getN (D := dd) (ci := 1) (v := .ref qk) (C := RX1) (T := TX1) (N := 7) hx hb hts hin_X1 hown hK.1 hP 4 rfl rfl 1 (by decide) (hK.2.use 10 rfl) (fun _ h9 => h9) rfl dX2_putDraft_28 ?_
        refine lv_iload_n hx hb dX2_putDraft_31 rfl (lv_at hl 0 rfl) ?_
        refine nr_iald (f := bl) hx hb hK hP 5 rfl (by omega) (by decide) dX2_putDraft_32 ?_
        refine nr_iast (f := va_cpy bl (va_up dr 8 ct) 0 9 k) (v := bl k) hx hb hK hP hD hS 3 rfl (by omega) (by decide) dX2_putDraft_33 (fun H locs hP hD hS => ?_)
        have hP : va_P dd vwCl [(h0, .inr (2, [.ref q1, .ref qd, .ref qt, .int (nI U)])), (q1, .inr (3, [.ref q4, .int (bI le), .int (nI wl), .int wd])), (q4, .inl (cI, 4096, .inl (aN D))), (qd, .inl (cI, 16, .inl (aN (va_up (va_cpy bl (va_up dr 8 ct) 0 9 k) (k + 9) (bl k))))), (h5, .inr (1, [.ref qw, .ref qk, .int (bI op), .int (bI ro), .int (nI st), .int (nI ct), .int (nI pl)])), (qk, .inl (cI, 7, .inl (aN bl)))] H := hP
        have hD : va_D A [(h0, .inr (2, [.ref q1, .ref qd, .ref qt, .int (nI U)])), (q1, .inr (3, [.ref q4, .int (bI le), .int (nI wl), .int wd])), (q4, .inl (cI, 4096, .inl (aN D))), (qd, .inl (cI, 16, .inl (aN (va_up (va_cpy bl (va_up dr 8 ct) 0 9 k) (k + 9) (bl k))))), (h5, .inr (1, [.ref qw, .ref qk, .int (bI op), .int (bI ro), .int (nI st), .int (nI ct), .int (nI pl)])), (qk, .inl (cI, 7, .inl (aN bl)))] := hD
        have hu_9 : va_up (va_cpy bl (va_up dr 8 ct) 0 9 k) (k + 9) (bl k) = va_cpy bl (va_up dr 8 ct) 0 9 (k + 1) := cpy_up (by omega) (by rw [Nat.zero_add])
        rw [hu_9] at hP hD
        refine lv_iinc (v := nI (k + 1)) (lv' := [(3, .int (nI (k + 1))), (0, .ref h0), (1, .int (nI en)), (2, .ref h5)]) hx hb dX2_putDraft_34 hl (k := 0) rfl (nr_inc _ _ (by omega)) (by decide) rfl (fun ls hl => ?_)
        refine lv_goto (tgt := 13) hx hb dX2_putDraft_37 (by decide) ?_
        exact ih_2 (k + 1) (by omega) (by omega) _ _ hP hD hS ls (lv_sub hl [0, 1, 2, 3] rfl)
  exact loop_1 (7 + 1) 0 (by omega) (by omega) _ _ (by rw [cpy_0]; exact hP) (by rw [cpy_0]; exact hD) hS ls (lv_sub hl [0, 1, 2, 3] rfl)

set_option maxHeartbeats 4000000 in
set_option maxRecDepth 100000 in
theorem kX2_makeEntry (l : Launch) (dd : va_G) (cI cZ cR cJ : ClassId) (h0 : Nat) (q1 : Nat) (qd : Nat) (qt : Nat) (U : Nat) (q4 : Nat) (le : Bool) (wl : Nat) (wd : Int32) (D : Nat → Nat) (dr : Nat → Nat) (h5 : Nat) (qw : Nat) (qk : Nat) (op : Bool) (ro : Bool) (st : Nat) (ct : Nat) (pl : Nat) (w : Nat → Nat) (bl : Nat → Nat) (en : Nat) (sz : Nat) (he : en < 32) (hwl : wl ≤ 1000) : Met l yX2_makeEntry wsX2_makeEntry ({ frames := 2, cells := 0, slots := 0, locals := 46 }) (va_Pc [.ref h0, .int (nI en), .ref h5] (qm dd cI cZ cR cJ sz [(h0, .inr (2, [.ref q1, .ref qd, .ref qt, .int (nI U)])), (q1, .inr (3, [.ref q4, .int (bI le), .int (nI wl), .int wd])), (q4, .inl (cI, 4096, .inl (aN D))), (qd, .inl (cI, 16, .inl (aN dr))), (h5, .inr (1, [.ref qw, .ref qk, .int (bI op), .int (bI ro), .int (nI st), .int (nI ct), .int (nI pl)])), (qw, .inl (cI, 6, .inl (aN w))), (qk, .inl (cI, 7, .inl (aN bl)))])) (va_Qi (fun (r : Int32) (u : Bool × (Nat → Nat) × Nat × Int32) => r = bI u.1 ∧ ((u.1, u.2.1, u.2.2.1, u.2.2.2) = mPut le wl wd D en (pdR bl ct (meR U w st dr)))) (fun u t => qa dd (va_A [(h0, .inr (2, [.ref q1, .ref qd, .ref qt, .int (nI U)])), (q1, .inr (3, [.ref q4, .int (bI le), .int (nI wl), .int wd])), (q4, .inl (cI, 4096, .inl (aN D))), (qd, .inl (cI, 16, .inl (aN dr))), (h5, .inr (1, [.ref qw, .ref qk, .int (bI op), .int (bI ro), .int (nI st), .int (nI ct), .int (nI pl)])), (qw, .inl (cI, 6, .inl (aN w))), (qk, .inl (cI, 7, .inl (aN bl)))] sz) [(h0, .inr (2, [.ref q1, .ref qd, .ref qt, .int (nI U)])), (q1, .inr (3, [.ref q4, .int (bI le), .int (nI (u.2.2.1)), .int u.2.2.2])), (q4, .inl (cI, 4096, .inl (aN u.2.1))), (qd, .inl (cI, 16, .inl (aN (pdR bl ct (meR U w st dr))))), (h5, .inr (1, [.ref qw, .ref qk, .int (bI op), .int (bI ro), .int (nI st), .int (nI ct), .int (nI pl)])), (qw, .inl (cI, 6, .inl (aN w))), (qk, .inl (cI, 7, .inl (aN bl)))] t) (va_A [(h0, .inr (2, [.ref q1, .ref qd, .ref qt, .int (nI U)])), (q1, .inr (3, [.ref q4, .int (bI le), .int (nI wl), .int wd])), (q4, .inl (cI, 4096, .inl (aN D))), (qd, .inl (cI, 16, .inl (aN dr))), (h5, .inr (1, [.ref qw, .ref qk, .int (bI op), .int (bI ro), .int (nI st), .int (nI ct), .int (nI pl)])), (qw, .inl (cI, 6, .inl (aN w))), (qk, .inl (cI, 7, .inl (aN bl)))] sz)) 0 0 (va_A [(h0, .inr (2, [.ref q1, .ref qd, .ref qt, .int (nI U)])), (q1, .inr (3, [.ref q4, .int (bI le), .int (nI wl), .int wd])), (q4, .inl (cI, 4096, .inl (aN D))), (qd, .inl (cI, 16, .inl (aN dr))), (h5, .inr (1, [.ref qw, .ref qk, .int (bI op), .int (bI ro), .int (nI st), .int (nI ct), .int (nI pl)])), (qw, .inl (cI, 6, .inl (aN w))), (qk, .inl (cI, 7, .inl (aN bl)))] sz) := by
  refine mk_mut (cc := cX2_makeEntry) (maxL := 4) (ret := (some .boolean)) (Qf := fun A => va_Qi (fun (r : Int32) (u : Bool × (Nat → Nat) × Nat × Int32) => r = bI u.1 ∧ ((u.1, u.2.1, u.2.2.1, u.2.2.2) = mPut le wl wd D en (pdR bl ct (meR U w st dr)))) (fun u t => qa dd A [(h0, .inr (2, [.ref q1, .ref qd, .ref qt, .int (nI U)])), (q1, .inr (3, [.ref q4, .int (bI le), .int (nI (u.2.2.1)), .int u.2.2.2])), (q4, .inl (cI, 4096, .inl (aN u.2.1))), (qd, .inl (cI, 16, .inl (aN (pdR bl ct (meR U w st dr))))), (h5, .inr (1, [.ref qw, .ref qk, .int (bI op), .int (bI ro), .int (nI st), .int (nI ct), .int (nI pl)])), (qw, .inl (cI, 6, .inl (aN w))), (qk, .inl (cI, 7, .inl (aN bl)))] t) A) (by decide) rfl (Nat.le_of_ble_eq_true rfl) ?_
  intro p e s m below meth c A hx hb hr hts hown hlocks hml hin hP hD hA hS hK ls hl
  have hown : s.vm.findClass RX2 = some m.cls := hown
  have hl : lv_has ls 4 [(0, .ref h0), (1, .int (nI en)), (2, .ref h5)] := hl
  have hf_9 := hts (.fieldLink RX2 9 "RecordSystem$Directory" "draft" "[I") (by decide +kernel)
  have hin_X2 : ∀ w ∈ wsX20, w ∈ wsX2_makeEntry := by decide +kernel
  have hf_31 := hts (.fieldLink RX2 31 "RecordSystem$Directory" "user" "I") (by decide +kernel)
  have hin_X1 : ∀ w ∈ wsX10, w ∈ wsX2_makeEntry := by decide +kernel
  refine lv_aload_n hx hb dX2_makeEntry_0 rfl (lv_at hl 0 rfl) ?_
  refine va_get (D := dd) (ci := 2) (v := .ref qd) (C := RX2) (T := TX2) (N := 4) hx hb hts hin_X2 hown hK.1 hP 0 rfl rfl 1 (by decide) hf_9 (fun _ h9 => h9) rfl dX2_makeEntry_1 ?_
  refine lv_iconst (v := nI 0) hx hb dX2_makeEntry_4 (by decide) ?_
  refine lv_aload_n hx hb dX2_makeEntry_5 rfl (lv_at hl 0 rfl) ?_
  refine va_get (D := dd) (ci := 2) (v := .int (nI U)) (C := RX2) (T := TX2) (N := 4) hx hb hts hin_X2 hown hK.1 hP 0 rfl rfl 3 (by decide) hf_31 (fun _ h9 => h9) rfl dX2_makeEntry_6 ?_
  refine nr_iast (f := dr) (v := U) hx hb hK hP hD hS 3 rfl (by omega) (by decide) dX2_makeEntry_9 (fun H locs hP hD hS => ?_)
  have hP : va_P dd vwCl [(h0, .inr (2, [.ref q1, .ref qd, .ref qt, .int (nI U)])), (q1, .inr (3, [.ref q4, .int (bI le), .int (nI wl), .int wd])), (q4, .inl (cI, 4096, .inl (aN D))), (qd, .inl (cI, 16, .inl (aN (va_up dr 0 U)))), (h5, .inr (1, [.ref qw, .ref qk, .int (bI op), .int (bI ro), .int (nI st), .int (nI ct), .int (nI pl)])), (qw, .inl (cI, 6, .inl (aN w))), (qk, .inl (cI, 7, .inl (aN bl)))] H := hP
  have hD : va_D A [(h0, .inr (2, [.ref q1, .ref qd, .ref qt, .int (nI U)])), (q1, .inr (3, [.ref q4, .int (bI le), .int (nI wl), .int wd])), (q4, .inl (cI, 4096, .inl (aN D))), (qd, .inl (cI, 16, .inl (aN (va_up dr 0 U)))), (h5, .inr (1, [.ref qw, .ref qk, .int (bI op), .int (bI ro), .int (nI st), .int (nI ct), .int (nI pl)])), (qw, .inl (cI, 6, .inl (aN w))), (qk, .inl (cI, 7, .inl (aN bl)))] := hD
  refine lv_iconst (v := nI 0) hx hb dX2_makeEntry_10 (by decide) ?_
  refine lv_istore_n (lv' := [(3, .int (nI 0)), (0, .ref h0), (1, .int (nI en)), (2, .ref h5)]) hx hb dX2_makeEntry_11 rfl hl (by decide) rfl (fun ls hl => ?_)
  have loop_1 : ∀ (n k : Nat), k ≤ 6 → 6 + 1 ≤ k + n → ∀ (H : Heap) (locs : List Loc), va_P dd vwCl [(h0, .inr (2, [.ref q1, .ref qd, .ref qt, .int (nI U)])), (q1, .inr (3, [.ref q4, .int (bI le), .int (nI wl), .int wd])), (q4, .inl (cI, 4096, .inl (aN D))), (qd, .inl (cI, 16, .inl (aN (va_cpy w (va_up dr 0 U) 0 1 k)))), (h5, .inr (1, [.ref qw, .ref qk, .int (bI op), .int (bI ro), .int (nI st), .int (nI ct), .int (nI pl)])), (qw, .inl (cI, 6, .inl (aN w))), (qk, .inl (cI, 7, .inl (aN bl)))] H → va_D A [(h0, .inr (2, [.ref q1, .ref qd, .ref qt, .int (nI U)])), (q1, .inr (3, [.ref q4, .int (bI le), .int (nI wl), .int wd])), (q4, .inl (cI, 4096, .inl (aN D))), (qd, .inl (cI, 16, .inl (aN (va_cpy w (va_up dr 0 U) 0 1 k)))), (h5, .inr (1, [.ref qw, .ref qk, .int (bI op), .int (bI ro), .int (nI st), .int (nI ct), .int (nI pl)])), (qw, .inl (cI, 6, .inl (aN w))), (qk, .inl (cI, 7, .inl (aN bl)))] → va_S A s.heap H locs → ∀ ls : Array Slot, lv_has ls 4 [(3, .int (nI k)), (0, .ref h0), (1, .int (nI en)), (2, .ref h5)] → W p l e (({ frames := 2, cells := 0, slots := 0, locals := 46 } : Room)) s m ([.ref h0, .int (nI en), .ref h5] : List Value).toArray below meth c H locs 0 0 (MQ below (va_Qi (fun (r : Int32) (u : Bool × (Nat → Nat) × Nat × Int32) => r = bI u.1 ∧ ((u.1, u.2.1, u.2.2.1, u.2.2.2) = mPut le wl wd D en (pdR bl ct (meR U w st dr)))) (fun u t => qa dd A [(h0, .inr (2, [.ref q1, .ref qd, .ref qt, .int (nI U)])), (q1, .inr (3, [.ref q4, .int (bI le), .int (nI (u.2.2.1)), .int u.2.2.2])), (q4, .inl (cI, 4096, .inl (aN u.2.1))), (qd, .inl (cI, 16, .inl (aN (pdR bl ct (meR U w st dr))))), (h5, .inr (1, [.ref qw, .ref qk, .int (bI op), .int (bI ro), .int (nI st), .int (nI ct), .int (nI pl)])), (qw, .inl (cI, 6, .inl (aN w))), (qk, .inl (cI, 7, .inl (aN bl)))] t) A) ([.ref h0, .int (nI en), .ref h5] : List Value).toArray s 0 0 A) (F0 m 12 ls []) := by
    intro n
    induction n with
    | zero => intro k h1 h2; exact absurd h2 (by omega)
    | succ n ih =>
      intro k hk_k hn_k H locs hP hD hS ls hl
      have ih_2 := ih
      refine lv_iload_n hx hb dX2_makeEntry_12 rfl (lv_at hl 0 rfl) ?_
      refine lv_bipush (v := nI 6) hx hb dX2_makeEntry_13 (by decide) ?_
      refine nr_ge (tgt := 38) hx hb (by omega) (by omega) dX2_makeEntry_15 (by decide) (fun c_15 => ?_) (fun c_15 => ?_)
      · have ek_k : k = 6 := by omega
        subst ek_k
        refine lv_aload_n hx hb dX2_makeEntry_38 rfl (lv_at hl 1 rfl) ?_
        refine va_get (D := dd) (ci := 2) (v := .ref qd) (C := RX2) (T := TX2) (N := 4) hx hb hts hin_X2 hown hK.1 hP 0 rfl rfl 1 (by decide) hf_9 (fun _ h9 => h9) rfl dX2_makeEntry_39 ?_
        refine lv_bipush (v := nI 7) hx hb dX2_makeEntry_42 (by decide) ?_
        refine lv_aload_n hx hb dX2_makeEntry_44 rfl (lv_at hl 3 rfl) ?_
        refine va_getN (D := dd) (ci := 1) (v := .int (nI st)) (C := RX1) (T := TX1) (N := 7) hx hb hts hin_X1 hown hK.1 hP 4 rfl rfl 4 (by decide) (hK.2.use 14 rfl) (fun _ h9 => h9) rfl dX2_makeEntry_45 ?_
        refine nr_iast (f := va_cpy w (va_up dr 0 U) 0 1 6) (v := st) hx hb hK hP hD hS 3 rfl (by omega) (by decide) dX2_makeEntry_48 (fun H locs hP hD hS => ?_)
        have hP : va_P dd vwCl [(h0, .inr (2, [.ref q1, .ref qd, .ref qt, .int (nI U)])), (q1, .inr (3, [.ref q4, .int (bI le), .int (nI wl), .int wd])), (q4, .inl (cI, 4096, .inl (aN D))), (qd, .inl (cI, 16, .inl (aN (va_up (va_cpy w (va_up dr 0 U) 0 1 6) 7 st)))), (h5, .inr (1, [.ref qw, .ref qk, .int (bI op), .int (bI ro), .int (nI st), .int (nI ct), .int (nI pl)])), (qw, .inl (cI, 6, .inl (aN w))), (qk, .inl (cI, 7, .inl (aN bl)))] H := hP
        have hD : va_D A [(h0, .inr (2, [.ref q1, .ref qd, .ref qt, .int (nI U)])), (q1, .inr (3, [.ref q4, .int (bI le), .int (nI wl), .int wd])), (q4, .inl (cI, 4096, .inl (aN D))), (qd, .inl (cI, 16, .inl (aN (va_up (va_cpy w (va_up dr 0 U) 0 1 6) 7 st)))), (h5, .inr (1, [.ref qw, .ref qk, .int (bI op), .int (bI ro), .int (nI st), .int (nI ct), .int (nI pl)])), (qw, .inl (cI, 6, .inl (aN w))), (qk, .inl (cI, 7, .inl (aN bl)))] := hD
        refine lv_aload_n hx hb dX2_makeEntry_49 rfl (lv_at hl 1 rfl) ?_
        refine lv_iload_n hx hb dX2_makeEntry_50 rfl (lv_at hl 2 rfl) ?_
        refine lv_aload_n hx hb dX2_makeEntry_51 rfl (lv_at hl 3 rfl) ?_
        refine cm_i (wc := [(h0, .inr (2, [.ref q1, .ref qd, .ref qt, .int (nI U)])), (q1, .inr (3, [.ref q4, .int (bI le), .int (nI wl), .int wd])), (q4, .inl (cI, 4096, .inl (aN D))), (qd, .inl (cI, 16, .inl (aN (va_up (va_cpy w (va_up dr 0 U) 0 1 6) 7 st)))), (h5, .inr (1, [.ref qw, .ref qk, .int (bI op), .int (bI ro), .int (nI st), .int (nI ct), .int (nI pl)])), (qk, .inl (cI, 7, .inl (aN bl)))]) (wr := [(qw, .inl (cI, 6, .inl (aN w)))]) (w1 := fun u : Bool × (Nat → Nat) × Nat × Int32 => [(h0, .inr (2, [.ref q1, .ref qd, .ref qt, .int (nI U)])), (q1, .inr (3, [.ref q4, .int (bI le), .int (nI (u.2.2.1)), .int u.2.2.2])), (q4, .inl (cI, 4096, .inl (aN u.2.1))), (qd, .inl (cI, 16, .inl (aN (pdR bl ct (va_up (va_cpy w (va_up dr 0 U) 0 1 6) 7 st))))), (h5, .inr (1, [.ref qw, .ref qk, .int (bI op), .int (bI ro), .int (nI st), .int (nI ct), .int (nI pl)])), (qk, .inl (cI, 7, .inl (aN bl)))]) hP hD hS hA [0, 1, 2, 3, 4, 6] [5] rfl rfl (by decide) (by decide) (va_runV (As := [.int (nI en), .ref h5]) (rest := []) ⟨hx, hb, hml, hown, hts⟩ (kX2_putDraft l dd cI cZ cR cJ h0 q1 qd qt U q4 le wl wd D (va_up (va_cpy w (va_up dr 0 U) 0 1 6) 7 st) h5 qw qk op ro st ct pl bl en H.size (by omega) (by omega)) (cwV 2 hts gX2_makeEntry_X2_putDraft rfl rfl rfl (by decide +kernel) ⟨Nat.le_of_ble_eq_true rfl, Nat.le_of_ble_eq_true rfl⟩) (pv_m hK hP hD 0 rfl (ci := 2) rfl [0, 1, 2, 3, 4, 6] (by decide) rfl rfl) rfl rfl hl.1 rfl (lv_room (Nat.le_of_ble_eq_true rfl)) dX2_makeEntry_52 ⟨Nat.zero_le _, Nat.zero_le _⟩) (fun r_7 u9 H locs hw hP hD hS => ?_)
        obtain ⟨b_3, D_4, wl_5, wd_6⟩ := u9
        obtain ⟨hr9, hw_8⟩ := hw
        try dsimp only at hr9 hw_8
        subst hr9
        have hP : va_P dd vwCl [(qw, .inl (cI, 6, .inl (aN w))), (h0, .inr (2, [.ref q1, .ref qd, .ref qt, .int (nI U)])), (q1, .inr (3, [.ref q4, .int (bI le), .int (nI wl_5), .int wd_6])), (q4, .inl (cI, 4096, .inl (aN D_4))), (qd, .inl (cI, 16, .inl (aN (pdR bl ct (va_up (va_cpy w (va_up dr 0 U) 0 1 6) 7 st))))), (h5, .inr (1, [.ref qw, .ref qk, .int (bI op), .int (bI ro), .int (nI st), .int (nI ct), .int (nI pl)])), (qk, .inl (cI, 7, .inl (aN bl)))] H := hP
        have hD : va_D A [(qw, .inl (cI, 6, .inl (aN w))), (h0, .inr (2, [.ref q1, .ref qd, .ref qt, .int (nI U)])), (q1, .inr (3, [.ref q4, .int (bI le), .int (nI wl_5), .int wd_6])), (q4, .inl (cI, 4096, .inl (aN D_4))), (qd, .inl (cI, 16, .inl (aN (pdR bl ct (va_up (va_cpy w (va_up dr 0 U) 0 1 6) 7 st))))), (h5, .inr (1, [.ref qw, .ref qk, .int (bI op), .int (bI ro), .int (nI st), .int (nI ct), .int (nI pl)])), (qk, .inl (cI, 7, .inl (aN bl)))] := hD
        have hP9 := hP.sub (ws' := [(h0, .inr (2, [.ref q1, .ref qd, .ref qt, .int (nI U)])), (q1, .inr (3, [.ref q4, .int (bI le), .int (nI wl_5), .int wd_6])), (q4, .inl (cI, 4096, .inl (aN D_4))), (qd, .inl (cI, 16, .inl (aN (pdR bl ct (va_up (va_cpy w (va_up dr 0 U) 0 1 6) 7 st))))), (h5, .inr (1, [.ref qw, .ref qk, .int (bI op), .int (bI ro), .int (nI st), .int (nI ct), .int (nI pl)])), (qw, .inl (cI, 6, .inl (aN w))), (qk, .inl (cI, 7, .inl (aN bl)))]) [1, 2, 3, 4, 5, 0, 6] rfl
        have hD9 := hD.sub (ws' := [(h0, .inr (2, [.ref q1, .ref qd, .ref qt, .int (nI U)])), (q1, .inr (3, [.ref q4, .int (bI le), .int (nI wl_5), .int wd_6])), (q4, .inl (cI, 4096, .inl (aN D_4))), (qd, .inl (cI, 16, .inl (aN (pdR bl ct (va_up (va_cpy w (va_up dr 0 U) 0 1 6) 7 st))))), (h5, .inr (1, [.ref qw, .ref qk, .int (bI op), .int (bI ro), .int (nI st), .int (nI ct), .int (nI pl)])), (qw, .inl (cI, 6, .inl (aN w))), (qk, .inl (cI, 7, .inl (aN bl)))]) [1, 2, 3, 4, 5, 0, 6] (by decide) rfl
        exact W.zret (v := bI b_3) hx hb hr (bI_nar _) (fun t ht hW => ⟨⟨bI b_3, (b_3, D_4, wl_5, wd_6), rfl, ⟨rfl, hw_8⟩, by rw [ht]; exact hP9, hD9⟩, hS.F ht⟩) hS.2.2 dX2_makeEntry_55
      · refine lv_aload_n hx hb dX2_makeEntry_18 rfl (lv_at hl 1 rfl) ?_
        refine va_get (D := dd) (ci := 2) (v := .ref qd) (C := RX2) (T := TX2) (N := 4) hx hb hts hin_X2 hown hK.1 hP 0 rfl rfl 1 (by decide) hf_9 (fun _ h9 => h9) rfl dX2_makeEntry_19 ?_
        refine lv_iconst (v := nI 1) hx hb dX2_makeEntry_22 (by decide) ?_
        refine lv_iload_n hx hb dX2_makeEntry_23 rfl (lv_at hl 0 rfl) ?_
        refine nr_iadd (k + 1) (by omega) hx hb dX2_makeEntry_24 ?_
        refine lv_aload_n hx hb dX2_makeEntry_25 rfl (lv_at hl 3 rfl) ?_
        refine va_getN (D := dd) (ci := 1) (v := .ref qw) (C := RX1) (T := TX1) (N := 7) hx hb hts hin_X1 hown hK.1 hP 4 rfl rfl 0 (by decide) (hK.2.use 9 rfl) (fun _ h9 => h9) rfl dX2_makeEntry_26 ?_
        refine lv_iload_n hx hb dX2_makeEntry_29 rfl (lv_at hl 0 rfl) ?_
        refine nr_iald (f := w) hx hb hK hP 5 rfl (by omega) (by decide) dX2_makeEntry_30 ?_
        refine nr_iast (f := va_cpy w (va_up dr 0 U) 0 1 k) (v := w k) hx hb hK hP hD hS 3 rfl (by omega) (by decide) dX2_makeEntry_31 (fun H locs hP hD hS => ?_)
        have hP : va_P dd vwCl [(h0, .inr (2, [.ref q1, .ref qd, .ref qt, .int (nI U)])), (q1, .inr (3, [.ref q4, .int (bI le), .int (nI wl), .int wd])), (q4, .inl (cI, 4096, .inl (aN D))), (qd, .inl (cI, 16, .inl (aN (va_up (va_cpy w (va_up dr 0 U) 0 1 k) (k + 1) (w k))))), (h5, .inr (1, [.ref qw, .ref qk, .int (bI op), .int (bI ro), .int (nI st), .int (nI ct), .int (nI pl)])), (qw, .inl (cI, 6, .inl (aN w))), (qk, .inl (cI, 7, .inl (aN bl)))] H := hP
        have hD : va_D A [(h0, .inr (2, [.ref q1, .ref qd, .ref qt, .int (nI U)])), (q1, .inr (3, [.ref q4, .int (bI le), .int (nI wl), .int wd])), (q4, .inl (cI, 4096, .inl (aN D))), (qd, .inl (cI, 16, .inl (aN (va_up (va_cpy w (va_up dr 0 U) 0 1 k) (k + 1) (w k))))), (h5, .inr (1, [.ref qw, .ref qk, .int (bI op), .int (bI ro), .int (nI st), .int (nI ct), .int (nI pl)])), (qw, .inl (cI, 6, .inl (aN w))), (qk, .inl (cI, 7, .inl (aN bl)))] := hD
        have hu_9 : va_up (va_cpy w (va_up dr 0 U) 0 1 k) (k + 1) (w k) = va_cpy w (va_up dr 0 U) 0 1 (k + 1) := cpy_up (by omega) (by rw [Nat.zero_add])
        rw [hu_9] at hP hD
        refine lv_iinc (v := nI (k + 1)) (lv' := [(3, .int (nI (k + 1))), (0, .ref h0), (1, .int (nI en)), (2, .ref h5)]) hx hb dX2_makeEntry_32 hl (k := 0) rfl (nr_inc _ _ (by omega)) (by decide) rfl (fun ls hl => ?_)
        refine lv_goto (tgt := 12) hx hb dX2_makeEntry_35 (by decide) ?_
        exact ih_2 (k + 1) (by omega) (by omega) _ _ hP hD hS ls (lv_sub hl [0, 1, 2, 3] rfl)
  exact loop_1 (6 + 1) 0 (by omega) (by omega) _ _ (by rw [cpy_0]; exact hP) (by rw [cpy_0]; exact hD) hS ls (lv_sub hl [0, 1, 2, 3] rfl)

set_option maxHeartbeats 4000000 in
set_option maxRecDepth 100000 in
theorem kX2_keepStretch (l : Launch) (dd : va_G) (cI cZ cR cJ : ClassId) (h0 : Nat) (q1 : Nat) (qd : Nat) (qt : Nat) (U : Nat) (q4 : Nat) (le : Bool) (wl : Nat) (wd : Int32) (D : Nat → Nat) (dr : Nat → Nat) (h5 : Nat) (qw : Nat) (qk : Nat) (op : Bool) (ro : Bool) (st : Nat) (ct : Nat) (pl : Nat) (bl : Nat → Nat) (en : Nat) (sz : Nat) (he : en < 32) (hwl : wl ≤ 1000) : Met l yX2_keepStretch wsX2_keepStretch ({ frames := 2, cells := 0, slots := 0, locals := 46 }) (va_Pc [.ref h0, .int (nI en), .ref h5] (qm dd cI cZ cR cJ sz [(h0, .inr (2, [.ref q1, .ref qd, .ref qt, .int (nI U)])), (q1, .inr (3, [.ref q4, .int (bI le), .int (nI wl), .int wd])), (q4, .inl (cI, 4096, .inl (aN D))), (qd, .inl (cI, 16, .inl (aN dr))), (h5, .inr (1, [.ref qw, .ref qk, .int (bI op), .int (bI ro), .int (nI st), .int (nI ct), .int (nI pl)])), (qk, .inl (cI, 7, .inl (aN bl)))])) (va_Qi (fun (r : Int32) (u : Bool × (Nat → Nat) × Nat × Int32) => r = bI u.1 ∧ ((u.1, u.2.1, u.2.2.1, u.2.2.2) = mPut le wl wd D en (pdR bl ct (gtR D en dr)))) (fun u t => qa dd (va_A [(h0, .inr (2, [.ref q1, .ref qd, .ref qt, .int (nI U)])), (q1, .inr (3, [.ref q4, .int (bI le), .int (nI wl), .int wd])), (q4, .inl (cI, 4096, .inl (aN D))), (qd, .inl (cI, 16, .inl (aN dr))), (h5, .inr (1, [.ref qw, .ref qk, .int (bI op), .int (bI ro), .int (nI st), .int (nI ct), .int (nI pl)])), (qk, .inl (cI, 7, .inl (aN bl)))] sz) [(h0, .inr (2, [.ref q1, .ref qd, .ref qt, .int (nI U)])), (q1, .inr (3, [.ref q4, .int (bI le), .int (nI (u.2.2.1)), .int u.2.2.2])), (q4, .inl (cI, 4096, .inl (aN u.2.1))), (qd, .inl (cI, 16, .inl (aN (pdR bl ct (gtR D en dr))))), (h5, .inr (1, [.ref qw, .ref qk, .int (bI op), .int (bI ro), .int (nI st), .int (nI ct), .int (nI pl)])), (qk, .inl (cI, 7, .inl (aN bl)))] t) (va_A [(h0, .inr (2, [.ref q1, .ref qd, .ref qt, .int (nI U)])), (q1, .inr (3, [.ref q4, .int (bI le), .int (nI wl), .int wd])), (q4, .inl (cI, 4096, .inl (aN D))), (qd, .inl (cI, 16, .inl (aN dr))), (h5, .inr (1, [.ref qw, .ref qk, .int (bI op), .int (bI ro), .int (nI st), .int (nI ct), .int (nI pl)])), (qk, .inl (cI, 7, .inl (aN bl)))] sz)) 0 0 (va_A [(h0, .inr (2, [.ref q1, .ref qd, .ref qt, .int (nI U)])), (q1, .inr (3, [.ref q4, .int (bI le), .int (nI wl), .int wd])), (q4, .inl (cI, 4096, .inl (aN D))), (qd, .inl (cI, 16, .inl (aN dr))), (h5, .inr (1, [.ref qw, .ref qk, .int (bI op), .int (bI ro), .int (nI st), .int (nI ct), .int (nI pl)])), (qk, .inl (cI, 7, .inl (aN bl)))] sz) := by
  refine mk_mut (cc := cX2_keepStretch) (maxL := 3) (ret := (some .boolean)) (Qf := fun A => va_Qi (fun (r : Int32) (u : Bool × (Nat → Nat) × Nat × Int32) => r = bI u.1 ∧ ((u.1, u.2.1, u.2.2.1, u.2.2.2) = mPut le wl wd D en (pdR bl ct (gtR D en dr)))) (fun u t => qa dd A [(h0, .inr (2, [.ref q1, .ref qd, .ref qt, .int (nI U)])), (q1, .inr (3, [.ref q4, .int (bI le), .int (nI (u.2.2.1)), .int u.2.2.2])), (q4, .inl (cI, 4096, .inl (aN u.2.1))), (qd, .inl (cI, 16, .inl (aN (pdR bl ct (gtR D en dr))))), (h5, .inr (1, [.ref qw, .ref qk, .int (bI op), .int (bI ro), .int (nI st), .int (nI ct), .int (nI pl)])), (qk, .inl (cI, 7, .inl (aN bl)))] t) A) (by decide) rfl (Nat.le_of_ble_eq_true rfl) ?_
  intro p e s m below meth c A hx hb hr hts hown hlocks hml hin hP hD hA hS hK ls hl
  have hown : s.vm.findClass RX2 = some m.cls := hown
  have hl : lv_has ls 3 [(0, .ref h0), (1, .int (nI en)), (2, .ref h5)] := hl
  have hf_18 := hts (.fieldLink RX2 18 "RecordSystem$Directory" "store" "LRecordSystem$Disk;") (by decide +kernel)
  have hin_X2 : ∀ w ∈ wsX20, w ∈ wsX2_keepStretch := by decide +kernel
  have hf_9 := hts (.fieldLink RX2 9 "RecordSystem$Directory" "draft" "[I") (by decide +kernel)
  have hini_X3 := hts (.initialized RX3) (by decide +kernel)
  have him_X3_getRow := hts (.instanceMethod yX3_getRow) (by decide +kernel)
  have hse_X3_getRow := hts (.selects RX3 yX3_getRow yX3_getRow) (by decide +kernel)
  refine lv_aload_n hx hb dX2_keepStretch_0 rfl (lv_at hl 0 rfl) ?_
  refine va_get (D := dd) (ci := 2) (v := .ref q1) (C := RX2) (T := TX2) (N := 4) hx hb hts hin_X2 hown hK.1 hP 0 rfl rfl 0 (by decide) hf_18 (fun _ h9 => h9) rfl dX2_keepStretch_1 ?_
  refine lv_iload_n hx hb dX2_keepStretch_4 rfl (lv_at hl 1 rfl) ?_
  refine lv_aload_n hx hb dX2_keepStretch_5 rfl (lv_at hl 0 rfl) ?_
  refine va_get (D := dd) (ci := 2) (v := .ref qd) (C := RX2) (T := TX2) (N := 4) hx hb hts hin_X2 hown hK.1 hP 0 rfl rfl 1 (by decide) hf_9 (fun _ h9 => h9) rfl dX2_keepStretch_6 ?_
  refine cm_v (wc := [(q1, .inr (3, [.ref q4, .int (bI le), .int (nI wl), .int wd])), (q4, .inl (cI, 4096, .inl (aN D))), (qd, .inl (cI, 16, .inl (aN dr)))]) (wr := [(h0, .inr (2, [.ref q1, .ref qd, .ref qt, .int (nI U)])), (h5, .inr (1, [.ref qw, .ref qk, .int (bI op), .int (bI ro), .int (nI st), .int (nI ct), .int (nI pl)])), (qk, .inl (cI, 7, .inl (aN bl)))]) (w1 := fun u : Unit => [(q1, .inr (3, [.ref q4, .int (bI le), .int (nI wl), .int wd])), (q4, .inl (cI, 4096, .inl (aN D))), (qd, .inl (cI, 16, .inl (aN (gtR D en dr))))]) hP hD hS hA [1, 2, 3] [0, 4, 5] rfl rfl (by decide) (by decide) (va_runVN (C := RX3) (As := [.int (nI en), .ref qd]) (rest := []) ⟨hx, hb, hml, hown, hts⟩ (kX3_getRow l dd cI cZ cR cJ q1 q4 le wl wd D en qd dr s.heap.size (by omega)) ⟨(va_cnB 2 hts gX2_keepStretch_X3_getRow_n81 rfl rfl rfl (hK.2.at 35 rfl) hini_X3 (by decide +kernel) ⟨Nat.le_of_ble_eq_true rfl, Nat.le_of_ble_eq_true rfl⟩), him_X3_getRow, hse_X3_getRow⟩ (pv_m hK hP hD 1 rfl (ci := 3) rfl [1, 2, 3] (by decide) rfl rfl) rfl rfl hl.1 rfl (lv_room (Nat.le_of_ble_eq_true rfl)) dX2_keepStretch_9 ⟨Nat.zero_le _, Nat.zero_le _⟩) (fun u9 H locs hw hP hD hS => ?_)
  have hw_2 := hw
  try dsimp only at hw_2
  have hP : va_P dd vwCl [(h0, .inr (2, [.ref q1, .ref qd, .ref qt, .int (nI U)])), (h5, .inr (1, [.ref qw, .ref qk, .int (bI op), .int (bI ro), .int (nI st), .int (nI ct), .int (nI pl)])), (qk, .inl (cI, 7, .inl (aN bl))), (q1, .inr (3, [.ref q4, .int (bI le), .int (nI wl), .int wd])), (q4, .inl (cI, 4096, .inl (aN D))), (qd, .inl (cI, 16, .inl (aN (gtR D en dr))))] H := hP
  have hD : va_D A [(h0, .inr (2, [.ref q1, .ref qd, .ref qt, .int (nI U)])), (h5, .inr (1, [.ref qw, .ref qk, .int (bI op), .int (bI ro), .int (nI st), .int (nI ct), .int (nI pl)])), (qk, .inl (cI, 7, .inl (aN bl))), (q1, .inr (3, [.ref q4, .int (bI le), .int (nI wl), .int wd])), (q4, .inl (cI, 4096, .inl (aN D))), (qd, .inl (cI, 16, .inl (aN (gtR D en dr))))] := hD
  refine lv_aload_n hx hb dX2_keepStretch_12 rfl (lv_at hl 0 rfl) ?_
  refine lv_iload_n hx hb dX2_keepStretch_13 rfl (lv_at hl 1 rfl) ?_
  refine lv_aload_n hx hb dX2_keepStretch_14 rfl (lv_at hl 2 rfl) ?_
  refine cm_i (wc := [(h0, .inr (2, [.ref q1, .ref qd, .ref qt, .int (nI U)])), (q1, .inr (3, [.ref q4, .int (bI le), .int (nI wl), .int wd])), (q4, .inl (cI, 4096, .inl (aN D))), (qd, .inl (cI, 16, .inl (aN (gtR D en dr)))), (h5, .inr (1, [.ref qw, .ref qk, .int (bI op), .int (bI ro), .int (nI st), .int (nI ct), .int (nI pl)])), (qk, .inl (cI, 7, .inl (aN bl)))]) (wr := []) (w1 := fun u : Bool × (Nat → Nat) × Nat × Int32 => [(h0, .inr (2, [.ref q1, .ref qd, .ref qt, .int (nI U)])), (q1, .inr (3, [.ref q4, .int (bI le), .int (nI (u.2.2.1)), .int u.2.2.2])), (q4, .inl (cI, 4096, .inl (aN u.2.1))), (qd, .inl (cI, 16, .inl (aN (pdR bl ct (gtR D en dr))))), (h5, .inr (1, [.ref qw, .ref qk, .int (bI op), .int (bI ro), .int (nI st), .int (nI ct), .int (nI pl)])), (qk, .inl (cI, 7, .inl (aN bl)))]) hP hD hS hA [0, 3, 4, 5, 1, 2] [] rfl rfl (by decide) (by decide) (va_runV (As := [.int (nI en), .ref h5]) (rest := []) ⟨hx, hb, hml, hown, hts⟩ (kX2_putDraft l dd cI cZ cR cJ h0 q1 qd qt U q4 le wl wd D (gtR D en dr) h5 qw qk op ro st ct pl bl en H.size (by omega) (by omega)) (cwV 2 hts gX2_keepStretch_X2_putDraft rfl rfl rfl (by decide +kernel) ⟨Nat.le_of_ble_eq_true rfl, Nat.le_of_ble_eq_true rfl⟩) (pv_m hK hP hD 0 rfl (ci := 2) rfl [0, 3, 4, 5, 1, 2] (by decide) rfl rfl) rfl rfl hl.1 rfl (lv_room (Nat.le_of_ble_eq_true rfl)) dX2_keepStretch_15 ⟨Nat.zero_le _, Nat.zero_le _⟩) (fun r_7 u9 H locs hw hP hD hS => ?_)
  obtain ⟨b_3, D_4, wl_5, wd_6⟩ := u9
  obtain ⟨hr9, hw_8⟩ := hw
  try dsimp only at hr9 hw_8
  subst hr9
  have hP : va_P dd vwCl [(h0, .inr (2, [.ref q1, .ref qd, .ref qt, .int (nI U)])), (q1, .inr (3, [.ref q4, .int (bI le), .int (nI wl_5), .int wd_6])), (q4, .inl (cI, 4096, .inl (aN D_4))), (qd, .inl (cI, 16, .inl (aN (pdR bl ct (gtR D en dr))))), (h5, .inr (1, [.ref qw, .ref qk, .int (bI op), .int (bI ro), .int (nI st), .int (nI ct), .int (nI pl)])), (qk, .inl (cI, 7, .inl (aN bl)))] H := hP
  have hD : va_D A [(h0, .inr (2, [.ref q1, .ref qd, .ref qt, .int (nI U)])), (q1, .inr (3, [.ref q4, .int (bI le), .int (nI wl_5), .int wd_6])), (q4, .inl (cI, 4096, .inl (aN D_4))), (qd, .inl (cI, 16, .inl (aN (pdR bl ct (gtR D en dr))))), (h5, .inr (1, [.ref qw, .ref qk, .int (bI op), .int (bI ro), .int (nI st), .int (nI ct), .int (nI pl)])), (qk, .inl (cI, 7, .inl (aN bl)))] := hD
  have hP9 := hP.sub (ws' := [(h0, .inr (2, [.ref q1, .ref qd, .ref qt, .int (nI U)])), (q1, .inr (3, [.ref q4, .int (bI le), .int (nI wl_5), .int wd_6])), (q4, .inl (cI, 4096, .inl (aN D_4))), (qd, .inl (cI, 16, .inl (aN (pdR bl ct (gtR D en dr))))), (h5, .inr (1, [.ref qw, .ref qk, .int (bI op), .int (bI ro), .int (nI st), .int (nI ct), .int (nI pl)])), (qk, .inl (cI, 7, .inl (aN bl)))]) [0, 1, 2, 3, 4, 5] rfl
  have hD9 := hD.sub (ws' := [(h0, .inr (2, [.ref q1, .ref qd, .ref qt, .int (nI U)])), (q1, .inr (3, [.ref q4, .int (bI le), .int (nI wl_5), .int wd_6])), (q4, .inl (cI, 4096, .inl (aN D_4))), (qd, .inl (cI, 16, .inl (aN (pdR bl ct (gtR D en dr))))), (h5, .inr (1, [.ref qw, .ref qk, .int (bI op), .int (bI ro), .int (nI st), .int (nI ct), .int (nI pl)])), (qk, .inl (cI, 7, .inl (aN bl)))]) [0, 1, 2, 3, 4, 5] (by decide) rfl
  exact W.zret (v := bI b_3) hx hb hr (bI_nar _) (fun t ht hW => ⟨⟨bI b_3, (b_3, D_4, wl_5, wd_6), rfl, ⟨rfl, hw_8⟩, by rw [ht]; exact hP9, hD9⟩, hS.F ht⟩) hS.2.2 dX2_keepStretch_18

set_option maxHeartbeats 4000000 in
set_option maxRecDepth 100000 in
theorem kX2_freeEntry (l : Launch) (dd : va_G) (cI cZ cR cJ : ClassId) (h0 : Nat) (q1 : Nat) (qd : Nat) (qt : Nat) (U : Nat) (q4 : Nat) (le : Bool) (wl : Nat) (wd : Int32) (D : Nat → Nat) (dr : Nat → Nat) (en : Nat) (sz : Nat) (he : en < 32) (hwl : wl ≤ 1000) : Met l yX2_freeEntry wsX2_freeEntry ({ frames := 1, cells := 0, slots := 0, locals := 23 }) (va_Pc [.ref h0, .int (nI en)] (qm dd cI cZ cR cJ sz [(h0, .inr (2, [.ref q1, .ref qd, .ref qt, .int (nI U)])), (q1, .inr (3, [.ref q4, .int (bI le), .int (nI wl), .int wd])), (q4, .inl (cI, 4096, .inl (aN D))), (qd, .inl (cI, 16, .inl (aN dr)))])) (va_Qi (fun (r : Int32) (u : Bool × (Nat → Nat) × Nat × Int32) => r = bI u.1 ∧ ((u.1, u.2.1, u.2.2.1, u.2.2.2) = mPut le wl wd D en (va_up (gtR D en dr) 0 229))) (fun u t => qa dd (va_A [(h0, .inr (2, [.ref q1, .ref qd, .ref qt, .int (nI U)])), (q1, .inr (3, [.ref q4, .int (bI le), .int (nI wl), .int wd])), (q4, .inl (cI, 4096, .inl (aN D))), (qd, .inl (cI, 16, .inl (aN dr)))] sz) [(h0, .inr (2, [.ref q1, .ref qd, .ref qt, .int (nI U)])), (q1, .inr (3, [.ref q4, .int (bI le), .int (nI (u.2.2.1)), .int u.2.2.2])), (q4, .inl (cI, 4096, .inl (aN u.2.1))), (qd, .inl (cI, 16, .inl (aN (va_up (gtR D en dr) 0 229))))] t) (va_A [(h0, .inr (2, [.ref q1, .ref qd, .ref qt, .int (nI U)])), (q1, .inr (3, [.ref q4, .int (bI le), .int (nI wl), .int wd])), (q4, .inl (cI, 4096, .inl (aN D))), (qd, .inl (cI, 16, .inl (aN dr)))] sz)) 0 0 (va_A [(h0, .inr (2, [.ref q1, .ref qd, .ref qt, .int (nI U)])), (q1, .inr (3, [.ref q4, .int (bI le), .int (nI wl), .int wd])), (q4, .inl (cI, 4096, .inl (aN D))), (qd, .inl (cI, 16, .inl (aN dr)))] sz) := by
  refine mk_mut (cc := cX2_freeEntry) (maxL := 2) (ret := (some .boolean)) (Qf := fun A => va_Qi (fun (r : Int32) (u : Bool × (Nat → Nat) × Nat × Int32) => r = bI u.1 ∧ ((u.1, u.2.1, u.2.2.1, u.2.2.2) = mPut le wl wd D en (va_up (gtR D en dr) 0 229))) (fun u t => qa dd A [(h0, .inr (2, [.ref q1, .ref qd, .ref qt, .int (nI U)])), (q1, .inr (3, [.ref q4, .int (bI le), .int (nI (u.2.2.1)), .int u.2.2.2])), (q4, .inl (cI, 4096, .inl (aN u.2.1))), (qd, .inl (cI, 16, .inl (aN (va_up (gtR D en dr) 0 229))))] t) A) (by decide) rfl (Nat.le_of_ble_eq_true rfl) ?_
  intro p e s m below meth c A hx hb hr hts hown hlocks hml hin hP hD hA hS hK ls hl
  have hown : s.vm.findClass RX2 = some m.cls := hown
  have hl : lv_has ls 2 [(0, .ref h0), (1, .int (nI en))] := hl
  have hf_18 := hts (.fieldLink RX2 18 "RecordSystem$Directory" "store" "LRecordSystem$Disk;") (by decide +kernel)
  have hin_X2 : ∀ w ∈ wsX20, w ∈ wsX2_freeEntry := by decide +kernel
  have hf_9 := hts (.fieldLink RX2 9 "RecordSystem$Directory" "draft" "[I") (by decide +kernel)
  have hini_X3 := hts (.initialized RX3) (by decide +kernel)
  have him_X3_getRow := hts (.instanceMethod yX3_getRow) (by decide +kernel)
  have hse_X3_getRow := hts (.selects RX3 yX3_getRow yX3_getRow) (by decide +kernel)
  have him_X3_putRow := hts (.instanceMethod yX3_putRow) (by decide +kernel)
  have hse_X3_putRow := hts (.selects RX3 yX3_putRow yX3_putRow) (by decide +kernel)
  refine lv_aload_n hx hb dX2_freeEntry_0 rfl (lv_at hl 0 rfl) ?_
  refine va_get (D := dd) (ci := 2) (v := .ref q1) (C := RX2) (T := TX2) (N := 4) hx hb hts hin_X2 hown hK.1 hP 0 rfl rfl 0 (by decide) hf_18 (fun _ h9 => h9) rfl dX2_freeEntry_1 ?_
  refine lv_iload_n hx hb dX2_freeEntry_4 rfl (lv_at hl 1 rfl) ?_
  refine lv_aload_n hx hb dX2_freeEntry_5 rfl (lv_at hl 0 rfl) ?_
  refine va_get (D := dd) (ci := 2) (v := .ref qd) (C := RX2) (T := TX2) (N := 4) hx hb hts hin_X2 hown hK.1 hP 0 rfl rfl 1 (by decide) hf_9 (fun _ h9 => h9) rfl dX2_freeEntry_6 ?_
  refine cm_v (wc := [(q1, .inr (3, [.ref q4, .int (bI le), .int (nI wl), .int wd])), (q4, .inl (cI, 4096, .inl (aN D))), (qd, .inl (cI, 16, .inl (aN dr)))]) (wr := [(h0, .inr (2, [.ref q1, .ref qd, .ref qt, .int (nI U)]))]) (w1 := fun u : Unit => [(q1, .inr (3, [.ref q4, .int (bI le), .int (nI wl), .int wd])), (q4, .inl (cI, 4096, .inl (aN D))), (qd, .inl (cI, 16, .inl (aN (gtR D en dr))))]) hP hD hS hA [1, 2, 3] [0] rfl rfl (by decide) (by decide) (va_runVN (C := RX3) (As := [.int (nI en), .ref qd]) (rest := []) ⟨hx, hb, hml, hown, hts⟩ (kX3_getRow l dd cI cZ cR cJ q1 q4 le wl wd D en qd dr s.heap.size (by omega)) ⟨(va_cnB 2 hts gX2_freeEntry_X3_getRow_n81 rfl rfl rfl (hK.2.at 35 rfl) hini_X3 (by decide +kernel) ⟨Nat.le_of_ble_eq_true rfl, Nat.le_of_ble_eq_true rfl⟩), him_X3_getRow, hse_X3_getRow⟩ (pv_m hK hP hD 1 rfl (ci := 3) rfl [1, 2, 3] (by decide) rfl rfl) rfl rfl hl.1 rfl (lv_room (Nat.le_of_ble_eq_true rfl)) dX2_freeEntry_9 ⟨Nat.zero_le _, Nat.zero_le _⟩) (fun u9 H locs hw hP hD hS => ?_)
  have hw_2 := hw
  try dsimp only at hw_2
  have hP : va_P dd vwCl [(h0, .inr (2, [.ref q1, .ref qd, .ref qt, .int (nI U)])), (q1, .inr (3, [.ref q4, .int (bI le), .int (nI wl), .int wd])), (q4, .inl (cI, 4096, .inl (aN D))), (qd, .inl (cI, 16, .inl (aN (gtR D en dr))))] H := hP
  have hD : va_D A [(h0, .inr (2, [.ref q1, .ref qd, .ref qt, .int (nI U)])), (q1, .inr (3, [.ref q4, .int (bI le), .int (nI wl), .int wd])), (q4, .inl (cI, 4096, .inl (aN D))), (qd, .inl (cI, 16, .inl (aN (gtR D en dr))))] := hD
  refine lv_aload_n hx hb dX2_freeEntry_12 rfl (lv_at hl 0 rfl) ?_
  refine va_get (D := dd) (ci := 2) (v := .ref qd) (C := RX2) (T := TX2) (N := 4) hx hb hts hin_X2 hown hK.1 hP 0 rfl rfl 1 (by decide) hf_9 (fun _ h9 => h9) rfl dX2_freeEntry_13 ?_
  refine lv_iconst (v := nI 0) hx hb dX2_freeEntry_16 (by decide) ?_
  refine lv_sipush (v := nI 229) hx hb dX2_freeEntry_17 (by decide) ?_
  refine nr_iast (f := gtR D en dr) (v := 229) hx hb hK hP hD hS 3 rfl (by omega) (by decide) dX2_freeEntry_20 (fun H locs hP hD hS => ?_)
  have hP : va_P dd vwCl [(h0, .inr (2, [.ref q1, .ref qd, .ref qt, .int (nI U)])), (q1, .inr (3, [.ref q4, .int (bI le), .int (nI wl), .int wd])), (q4, .inl (cI, 4096, .inl (aN D))), (qd, .inl (cI, 16, .inl (aN (va_up (gtR D en dr) 0 229))))] H := hP
  have hD : va_D A [(h0, .inr (2, [.ref q1, .ref qd, .ref qt, .int (nI U)])), (q1, .inr (3, [.ref q4, .int (bI le), .int (nI wl), .int wd])), (q4, .inl (cI, 4096, .inl (aN D))), (qd, .inl (cI, 16, .inl (aN (va_up (gtR D en dr) 0 229))))] := hD
  refine lv_aload_n hx hb dX2_freeEntry_21 rfl (lv_at hl 0 rfl) ?_
  refine va_get (D := dd) (ci := 2) (v := .ref q1) (C := RX2) (T := TX2) (N := 4) hx hb hts hin_X2 hown hK.1 hP 0 rfl rfl 0 (by decide) hf_18 (fun _ h9 => h9) rfl dX2_freeEntry_22 ?_
  refine lv_iload_n hx hb dX2_freeEntry_25 rfl (lv_at hl 1 rfl) ?_
  refine lv_aload_n hx hb dX2_freeEntry_26 rfl (lv_at hl 0 rfl) ?_
  refine va_get (D := dd) (ci := 2) (v := .ref qd) (C := RX2) (T := TX2) (N := 4) hx hb hts hin_X2 hown hK.1 hP 0 rfl rfl 1 (by decide) hf_9 (fun _ h9 => h9) rfl dX2_freeEntry_27 ?_
  refine cm_i (wc := [(q1, .inr (3, [.ref q4, .int (bI le), .int (nI wl), .int wd])), (q4, .inl (cI, 4096, .inl (aN D))), (qd, .inl (cI, 16, .inl (aN (va_up (gtR D en dr) 0 229))))]) (wr := [(h0, .inr (2, [.ref q1, .ref qd, .ref qt, .int (nI U)]))]) (w1 := fun u : Bool × (Nat → Nat) × Nat × Int32 => [(q1, .inr (3, [.ref q4, .int (bI le), .int (nI (u.2.2.1)), .int u.2.2.2])), (q4, .inl (cI, 4096, .inl (aN u.2.1))), (qd, .inl (cI, 16, .inl (aN (va_up (gtR D en dr) 0 229))))]) hP hD hS hA [1, 2, 3] [0] rfl rfl (by decide) (by decide) (va_runVN (C := RX3) (As := [.int (nI en), .ref qd]) (rest := []) ⟨hx, hb, hml, hown, hts⟩ (kX3_putRow l dd cI cZ cR cJ q1 q4 le wl wd D en qd (va_up (gtR D en dr) 0 229) H.size (by omega) (by omega)) ⟨(va_cnB 2 hts gX2_freeEntry_X3_putRow_n85 rfl rfl rfl (hK.2.at 33 rfl) hini_X3 (by decide +kernel) ⟨Nat.le_of_ble_eq_true rfl, Nat.le_of_ble_eq_true rfl⟩), him_X3_putRow, hse_X3_putRow⟩ (pv_m hK hP hD 1 rfl (ci := 3) rfl [1, 2, 3] (by decide) rfl rfl) rfl rfl hl.1 rfl (lv_room (Nat.le_of_ble_eq_true rfl)) dX2_freeEntry_30 ⟨Nat.zero_le _, Nat.zero_le _⟩) (fun r_7 u9 H locs hw hP hD hS => ?_)
  obtain ⟨b_3, D_4, wl_5, wd_6⟩ := u9
  obtain ⟨hr9, hw_8⟩ := hw
  try dsimp only at hr9 hw_8
  subst hr9
  have hP : va_P dd vwCl [(h0, .inr (2, [.ref q1, .ref qd, .ref qt, .int (nI U)])), (q1, .inr (3, [.ref q4, .int (bI le), .int (nI wl_5), .int wd_6])), (q4, .inl (cI, 4096, .inl (aN D_4))), (qd, .inl (cI, 16, .inl (aN (va_up (gtR D en dr) 0 229))))] H := hP
  have hD : va_D A [(h0, .inr (2, [.ref q1, .ref qd, .ref qt, .int (nI U)])), (q1, .inr (3, [.ref q4, .int (bI le), .int (nI wl_5), .int wd_6])), (q4, .inl (cI, 4096, .inl (aN D_4))), (qd, .inl (cI, 16, .inl (aN (va_up (gtR D en dr) 0 229))))] := hD
  have hP9 := hP.sub (ws' := [(h0, .inr (2, [.ref q1, .ref qd, .ref qt, .int (nI U)])), (q1, .inr (3, [.ref q4, .int (bI le), .int (nI wl_5), .int wd_6])), (q4, .inl (cI, 4096, .inl (aN D_4))), (qd, .inl (cI, 16, .inl (aN (va_up (gtR D en dr) 0 229))))]) [0, 1, 2, 3] rfl
  have hD9 := hD.sub (ws' := [(h0, .inr (2, [.ref q1, .ref qd, .ref qt, .int (nI U)])), (q1, .inr (3, [.ref q4, .int (bI le), .int (nI wl_5), .int wd_6])), (q4, .inl (cI, 4096, .inl (aN D_4))), (qd, .inl (cI, 16, .inl (aN (va_up (gtR D en dr) 0 229))))]) [0, 1, 2, 3] (by decide) rfl
  exact W.zret (v := bI b_3) hx hb hr (bI_nar _) (fun t ht hW => ⟨⟨bI b_3, (b_3, D_4, wl_5, wd_6), rfl, ⟨rfl, hw_8⟩, by rw [ht]; exact hP9, hD9⟩, hS.F ht⟩) hS.2.2 dX2_freeEntry_33

set_option maxHeartbeats 4000000 in
set_option maxRecDepth 100000 in
theorem kX2_nameEntry (l : Launch) (dd : va_G) (cI cZ cR cJ : ClassId) (h0 : Nat) (q1 : Nat) (qd : Nat) (qt : Nat) (U : Nat) (q4 : Nat) (le : Bool) (wl : Nat) (wd : Int32) (D : Nat → Nat) (dr : Nat → Nat) (h5 : Nat) (qw : Nat) (qk : Nat) (op : Bool) (ro : Bool) (st : Nat) (ct : Nat) (pl : Nat) (w : Nat → Nat) (en : Nat) (sz : Nat) (he : en < 32) (hwl : wl ≤ 1000) (hDb : ∀ j, D j < 256) (hwb : ∀ j, w j < 128) : Met l yX2_nameEntry wsX2_nameEntry ({ frames := 1, cells := 0, slots := 0, locals := 23 }) (va_Pc [.ref h0, .int (nI en), .ref h5] (qm dd cI cZ cR cJ sz [(h0, .inr (2, [.ref q1, .ref qd, .ref qt, .int (nI U)])), (q1, .inr (3, [.ref q4, .int (bI le), .int (nI wl), .int wd])), (q4, .inl (cI, 4096, .inl (aN D))), (qd, .inl (cI, 16, .inl (aN dr))), (h5, .inr (1, [.ref qw, .ref qk, .int (bI op), .int (bI ro), .int (nI st), .int (nI ct), .int (nI pl)])), (qw, .inl (cI, 6, .inl (aN w)))])) (va_Qi (fun (r : Int32) (u : Bool × (Nat → Nat) × Nat × Int32) => r = bI u.1 ∧ ((u.1, u.2.1, u.2.2.1, u.2.2.2) = mPut le wl wd D en (nmR D en w dr))) (fun u t => qa dd (va_A [(h0, .inr (2, [.ref q1, .ref qd, .ref qt, .int (nI U)])), (q1, .inr (3, [.ref q4, .int (bI le), .int (nI wl), .int wd])), (q4, .inl (cI, 4096, .inl (aN D))), (qd, .inl (cI, 16, .inl (aN dr))), (h5, .inr (1, [.ref qw, .ref qk, .int (bI op), .int (bI ro), .int (nI st), .int (nI ct), .int (nI pl)])), (qw, .inl (cI, 6, .inl (aN w)))] sz) [(h0, .inr (2, [.ref q1, .ref qd, .ref qt, .int (nI U)])), (q1, .inr (3, [.ref q4, .int (bI le), .int (nI (u.2.2.1)), .int u.2.2.2])), (q4, .inl (cI, 4096, .inl (aN u.2.1))), (qd, .inl (cI, 16, .inl (aN (nmR D en w dr)))), (h5, .inr (1, [.ref qw, .ref qk, .int (bI op), .int (bI ro), .int (nI st), .int (nI ct), .int (nI pl)])), (qw, .inl (cI, 6, .inl (aN w)))] t) (va_A [(h0, .inr (2, [.ref q1, .ref qd, .ref qt, .int (nI U)])), (q1, .inr (3, [.ref q4, .int (bI le), .int (nI wl), .int wd])), (q4, .inl (cI, 4096, .inl (aN D))), (qd, .inl (cI, 16, .inl (aN dr))), (h5, .inr (1, [.ref qw, .ref qk, .int (bI op), .int (bI ro), .int (nI st), .int (nI ct), .int (nI pl)])), (qw, .inl (cI, 6, .inl (aN w)))] sz)) 0 0 (va_A [(h0, .inr (2, [.ref q1, .ref qd, .ref qt, .int (nI U)])), (q1, .inr (3, [.ref q4, .int (bI le), .int (nI wl), .int wd])), (q4, .inl (cI, 4096, .inl (aN D))), (qd, .inl (cI, 16, .inl (aN dr))), (h5, .inr (1, [.ref qw, .ref qk, .int (bI op), .int (bI ro), .int (nI st), .int (nI ct), .int (nI pl)])), (qw, .inl (cI, 6, .inl (aN w)))] sz) := by
  refine mk_mut (cc := cX2_nameEntry) (maxL := 5) (ret := (some .boolean)) (Qf := fun A => va_Qi (fun (r : Int32) (u : Bool × (Nat → Nat) × Nat × Int32) => r = bI u.1 ∧ ((u.1, u.2.1, u.2.2.1, u.2.2.2) = mPut le wl wd D en (nmR D en w dr))) (fun u t => qa dd A [(h0, .inr (2, [.ref q1, .ref qd, .ref qt, .int (nI U)])), (q1, .inr (3, [.ref q4, .int (bI le), .int (nI (u.2.2.1)), .int u.2.2.2])), (q4, .inl (cI, 4096, .inl (aN u.2.1))), (qd, .inl (cI, 16, .inl (aN (nmR D en w dr)))), (h5, .inr (1, [.ref qw, .ref qk, .int (bI op), .int (bI ro), .int (nI st), .int (nI ct), .int (nI pl)])), (qw, .inl (cI, 6, .inl (aN w)))] t) A) (by decide) rfl (Nat.le_of_ble_eq_true rfl) ?_
  intro p e s m below meth c A hx hb hr hts hown hlocks hml hin hP hD hA hS hK ls hl
  have hown : s.vm.findClass RX2 = some m.cls := hown
  have hl : lv_has ls 5 [(0, .ref h0), (1, .int (nI en)), (2, .ref h5)] := hl
  have hf_18 := hts (.fieldLink RX2 18 "RecordSystem$Directory" "store" "LRecordSystem$Disk;") (by decide +kernel)
  have hin_X2 : ∀ w ∈ wsX20, w ∈ wsX2_nameEntry := by decide +kernel
  have hf_9 := hts (.fieldLink RX2 9 "RecordSystem$Directory" "draft" "[I") (by decide +kernel)
  have hini_X3 := hts (.initialized RX3) (by decide +kernel)
  have him_X3_getRow := hts (.instanceMethod yX3_getRow) (by decide +kernel)
  have hse_X3_getRow := hts (.selects RX3 yX3_getRow yX3_getRow) (by decide +kernel)
  have him_X3_putRow := hts (.instanceMethod yX3_putRow) (by decide +kernel)
  have hse_X3_putRow := hts (.selects RX3 yX3_putRow yX3_putRow) (by decide +kernel)
  have hin_X1 : ∀ w ∈ wsX10, w ∈ wsX2_nameEntry := by decide +kernel
  refine lv_aload_n hx hb dX2_nameEntry_0 rfl (lv_at hl 0 rfl) ?_
  refine va_get (D := dd) (ci := 2) (v := .ref q1) (C := RX2) (T := TX2) (N := 4) hx hb hts hin_X2 hown hK.1 hP 0 rfl rfl 0 (by decide) hf_18 (fun _ h9 => h9) rfl dX2_nameEntry_1 ?_
  refine lv_iload_n hx hb dX2_nameEntry_4 rfl (lv_at hl 1 rfl) ?_
  refine lv_aload_n hx hb dX2_nameEntry_5 rfl (lv_at hl 0 rfl) ?_
  refine va_get (D := dd) (ci := 2) (v := .ref qd) (C := RX2) (T := TX2) (N := 4) hx hb hts hin_X2 hown hK.1 hP 0 rfl rfl 1 (by decide) hf_9 (fun _ h9 => h9) rfl dX2_nameEntry_6 ?_
  refine cm_v (wc := [(q1, .inr (3, [.ref q4, .int (bI le), .int (nI wl), .int wd])), (q4, .inl (cI, 4096, .inl (aN D))), (qd, .inl (cI, 16, .inl (aN dr)))]) (wr := [(h0, .inr (2, [.ref q1, .ref qd, .ref qt, .int (nI U)])), (h5, .inr (1, [.ref qw, .ref qk, .int (bI op), .int (bI ro), .int (nI st), .int (nI ct), .int (nI pl)])), (qw, .inl (cI, 6, .inl (aN w)))]) (w1 := fun u : Unit => [(q1, .inr (3, [.ref q4, .int (bI le), .int (nI wl), .int wd])), (q4, .inl (cI, 4096, .inl (aN D))), (qd, .inl (cI, 16, .inl (aN (gtR D en dr))))]) hP hD hS hA [1, 2, 3] [0, 4, 5] rfl rfl (by decide) (by decide) (va_runVN (C := RX3) (As := [.int (nI en), .ref qd]) (rest := []) ⟨hx, hb, hml, hown, hts⟩ (kX3_getRow l dd cI cZ cR cJ q1 q4 le wl wd D en qd dr s.heap.size (by omega)) ⟨(va_cnB 2 hts gX2_nameEntry_X3_getRow_n81 rfl rfl rfl (hK.2.at 35 rfl) hini_X3 (by decide +kernel) ⟨Nat.le_of_ble_eq_true rfl, Nat.le_of_ble_eq_true rfl⟩), him_X3_getRow, hse_X3_getRow⟩ (pv_m hK hP hD 1 rfl (ci := 3) rfl [1, 2, 3] (by decide) rfl rfl) rfl rfl hl.1 rfl (lv_room (Nat.le_of_ble_eq_true rfl)) dX2_nameEntry_9 ⟨Nat.zero_le _, Nat.zero_le _⟩) (fun u9 H locs hw hP hD hS => ?_)
  have hw_2 := hw
  try dsimp only at hw_2
  have hP : va_P dd vwCl [(h0, .inr (2, [.ref q1, .ref qd, .ref qt, .int (nI U)])), (h5, .inr (1, [.ref qw, .ref qk, .int (bI op), .int (bI ro), .int (nI st), .int (nI ct), .int (nI pl)])), (qw, .inl (cI, 6, .inl (aN w))), (q1, .inr (3, [.ref q4, .int (bI le), .int (nI wl), .int wd])), (q4, .inl (cI, 4096, .inl (aN D))), (qd, .inl (cI, 16, .inl (aN (gtR D en dr))))] H := hP
  have hD : va_D A [(h0, .inr (2, [.ref q1, .ref qd, .ref qt, .int (nI U)])), (h5, .inr (1, [.ref qw, .ref qk, .int (bI op), .int (bI ro), .int (nI st), .int (nI ct), .int (nI pl)])), (qw, .inl (cI, 6, .inl (aN w))), (q1, .inr (3, [.ref q4, .int (bI le), .int (nI wl), .int wd])), (q4, .inl (cI, 4096, .inl (aN D))), (qd, .inl (cI, 16, .inl (aN (gtR D en dr))))] := hD
  refine lv_aload_n hx hb dX2_nameEntry_12 rfl (lv_at hl 0 rfl) ?_
  refine va_get (D := dd) (ci := 2) (v := .ref qd) (C := RX2) (T := TX2) (N := 4) hx hb hts hin_X2 hown hK.1 hP 0 rfl rfl 1 (by decide) hf_9 (fun _ h9 => h9) rfl dX2_nameEntry_13 ?_
  refine lv_iconst (v := nI 5) hx hb dX2_nameEntry_16 (by decide) ?_
  refine nr_iald (f := gtR D en dr) hx hb hK hP 5 rfl (by omega) (by decide) dX2_nameEntry_17 ?_
  refine nr_top (b := D (16 * en + 5)) (pk_cpy_in (by omega) (by omega)) ?_
  have hv_3 := hDb (16 * en + 5)
  refine lv_sipush (v := nI 128) hx hb dX2_nameEntry_18 (by decide) ?_
  refine nr_iand128 (((D (16 * en + 5)) / 128 * 128)) (by omega) hx hb (by omega) dX2_nameEntry_21 ?_
  refine lv_istore_n (lv' := [(3, .int (nI (((D (16 * en + 5)) / 128 * 128)))), (0, .ref h0), (1, .int (nI en)), (2, .ref h5)]) hx hb dX2_nameEntry_22 rfl hl (by decide) rfl (fun ls hl => ?_)
  refine lv_iconst (v := nI 0) hx hb dX2_nameEntry_23 (by decide) ?_
  refine lv_istore (lv' := [(4, .int (nI 0)), (3, .int (nI (((D (16 * en + 5)) / 128 * 128)))), (0, .ref h0), (1, .int (nI en)), (2, .ref h5)]) hx hb dX2_nameEntry_24 hl (by decide) rfl (fun ls hl => ?_)
  have loop_4 : ∀ (n k : Nat), k ≤ 6 → 6 + 1 ≤ k + n → ∀ (H : Heap) (locs : List Loc), va_P dd vwCl [(h0, .inr (2, [.ref q1, .ref qd, .ref qt, .int (nI U)])), (h5, .inr (1, [.ref qw, .ref qk, .int (bI op), .int (bI ro), .int (nI st), .int (nI ct), .int (nI pl)])), (qw, .inl (cI, 6, .inl (aN w))), (q1, .inr (3, [.ref q4, .int (bI le), .int (nI wl), .int wd])), (q4, .inl (cI, 4096, .inl (aN D))), (qd, .inl (cI, 16, .inl (aN (va_cpy w (gtR D en dr) 0 1 k))))] H → va_D A [(h0, .inr (2, [.ref q1, .ref qd, .ref qt, .int (nI U)])), (h5, .inr (1, [.ref qw, .ref qk, .int (bI op), .int (bI ro), .int (nI st), .int (nI ct), .int (nI pl)])), (qw, .inl (cI, 6, .inl (aN w))), (q1, .inr (3, [.ref q4, .int (bI le), .int (nI wl), .int wd])), (q4, .inl (cI, 4096, .inl (aN D))), (qd, .inl (cI, 16, .inl (aN (va_cpy w (gtR D en dr) 0 1 k))))] → va_S A s.heap H locs → ∀ ls : Array Slot, lv_has ls 5 [(4, .int (nI k)), (3, .int (nI (((D (16 * en + 5)) / 128 * 128)))), (0, .ref h0), (1, .int (nI en)), (2, .ref h5)] → W p l e (({ frames := 1, cells := 0, slots := 0, locals := 23 } : Room)) s m ([.ref h0, .int (nI en), .ref h5] : List Value).toArray below meth c H locs 0 0 (MQ below (va_Qi (fun (r : Int32) (u : Bool × (Nat → Nat) × Nat × Int32) => r = bI u.1 ∧ ((u.1, u.2.1, u.2.2.1, u.2.2.2) = mPut le wl wd D en (nmR D en w dr))) (fun u t => qa dd A [(h0, .inr (2, [.ref q1, .ref qd, .ref qt, .int (nI U)])), (q1, .inr (3, [.ref q4, .int (bI le), .int (nI (u.2.2.1)), .int u.2.2.2])), (q4, .inl (cI, 4096, .inl (aN u.2.1))), (qd, .inl (cI, 16, .inl (aN (nmR D en w dr)))), (h5, .inr (1, [.ref qw, .ref qk, .int (bI op), .int (bI ro), .int (nI st), .int (nI ct), .int (nI pl)])), (qw, .inl (cI, 6, .inl (aN w)))] t) A) ([.ref h0, .int (nI en), .ref h5] : List Value).toArray s 0 0 A) (F0 m 26 ls []) := by
    intro n
    induction n with
    | zero => intro k h1 h2; exact absurd h2 (by omega)
    | succ n ih =>
      intro k hk_k hn_k H locs hP hD hS ls hl
      have ih_5 := ih
      refine lv_iload hx hb dX2_nameEntry_26 (lv_at hl 0 rfl) ?_
      refine lv_bipush (v := nI 6) hx hb dX2_nameEntry_28 (by decide) ?_
      refine nr_ge (tgt := 55) hx hb (by omega) (by omega) dX2_nameEntry_30 (by decide) (fun c_30 => ?_) (fun c_30 => ?_)
      · have ek_k : k = 6 := by omega
        subst ek_k
        refine lv_aload_n hx hb dX2_nameEntry_55 rfl (lv_at hl 2 rfl) ?_
        refine va_get (D := dd) (ci := 2) (v := .ref qd) (C := RX2) (T := TX2) (N := 4) hx hb hts hin_X2 hown hK.1 hP 0 rfl rfl 1 (by decide) hf_9 (fun _ h9 => h9) rfl dX2_nameEntry_56 ?_
        refine lv_iconst (v := nI 5) hx hb dX2_nameEntry_59 (by decide) ?_
        refine lv_dup2_11 hx hb dX2_nameEntry_60 rfl rfl ?_
        refine nr_iald (f := va_cpy w (gtR D en dr) 0 1 6) hx hb hK hP 5 rfl (by omega) (by decide) dX2_nameEntry_61 ?_
        refine nr_top (b := w 4) (pk_cpy_in (by omega) (by omega)) ?_
        have hv_6 := hwb 4
        refine lv_iload_n hx hb dX2_nameEntry_62 rfl (lv_at hl 1 rfl) ?_
        refine nr_ior (128 * ((D (16 * en + 5)) / 128) + w 4) (by omega) hx hb (by omega) (by omega) dX2_nameEntry_63 ?_
        refine nr_iast (f := va_cpy w (gtR D en dr) 0 1 6) (v := 128 * ((D (16 * en + 5)) / 128) + w 4) hx hb hK hP hD hS 5 rfl (by omega) (by decide) dX2_nameEntry_64 (fun H locs hP hD hS => ?_)
        have hP : va_P dd vwCl [(h0, .inr (2, [.ref q1, .ref qd, .ref qt, .int (nI U)])), (h5, .inr (1, [.ref qw, .ref qk, .int (bI op), .int (bI ro), .int (nI st), .int (nI ct), .int (nI pl)])), (qw, .inl (cI, 6, .inl (aN w))), (q1, .inr (3, [.ref q4, .int (bI le), .int (nI wl), .int wd])), (q4, .inl (cI, 4096, .inl (aN D))), (qd, .inl (cI, 16, .inl (aN (va_up (va_cpy w (gtR D en dr) 0 1 6) 5 (128 * ((D (16 * en + 5)) / 128) + w 4)))))] H := hP
        have hD : va_D A [(h0, .inr (2, [.ref q1, .ref qd, .ref qt, .int (nI U)])), (h5, .inr (1, [.ref qw, .ref qk, .int (bI op), .int (bI ro), .int (nI st), .int (nI ct), .int (nI pl)])), (qw, .inl (cI, 6, .inl (aN w))), (q1, .inr (3, [.ref q4, .int (bI le), .int (nI wl), .int wd])), (q4, .inl (cI, 4096, .inl (aN D))), (qd, .inl (cI, 16, .inl (aN (va_up (va_cpy w (gtR D en dr) 0 1 6) 5 (128 * ((D (16 * en + 5)) / 128) + w 4)))))] := hD
        have hu_7 : va_up (va_cpy w (gtR D en dr) 0 1 6) 5 (128 * ((D (16 * en + 5)) / 128) + w 4) = nmR D en w dr := by simp only [nmR]; congr 1; omega
        rw [hu_7] at hP hD
        refine lv_aload_n hx hb dX2_nameEntry_65 rfl (lv_at hl 2 rfl) ?_
        refine va_get (D := dd) (ci := 2) (v := .ref q1) (C := RX2) (T := TX2) (N := 4) hx hb hts hin_X2 hown hK.1 hP 0 rfl rfl 0 (by decide) hf_18 (fun _ h9 => h9) rfl dX2_nameEntry_66 ?_
        refine lv_iload_n hx hb dX2_nameEntry_69 rfl (lv_at hl 3 rfl) ?_
        refine lv_aload_n hx hb dX2_nameEntry_70 rfl (lv_at hl 2 rfl) ?_
        refine va_get (D := dd) (ci := 2) (v := .ref qd) (C := RX2) (T := TX2) (N := 4) hx hb hts hin_X2 hown hK.1 hP 0 rfl rfl 1 (by decide) hf_9 (fun _ h9 => h9) rfl dX2_nameEntry_71 ?_
        refine cm_i (wc := [(q1, .inr (3, [.ref q4, .int (bI le), .int (nI wl), .int wd])), (q4, .inl (cI, 4096, .inl (aN D))), (qd, .inl (cI, 16, .inl (aN (nmR D en w dr))))]) (wr := [(h0, .inr (2, [.ref q1, .ref qd, .ref qt, .int (nI U)])), (h5, .inr (1, [.ref qw, .ref qk, .int (bI op), .int (bI ro), .int (nI st), .int (nI ct), .int (nI pl)])), (qw, .inl (cI, 6, .inl (aN w)))]) (w1 := fun u : Bool × (Nat → Nat) × Nat × Int32 => [(q1, .inr (3, [.ref q4, .int (bI le), .int (nI (u.2.2.1)), .int u.2.2.2])), (q4, .inl (cI, 4096, .inl (aN u.2.1))), (qd, .inl (cI, 16, .inl (aN (nmR D en w dr))))]) hP hD hS hA [3, 4, 5] [0, 1, 2] rfl rfl (by decide) (by decide) (va_runVN (C := RX3) (As := [.int (nI en), .ref qd]) (rest := []) ⟨hx, hb, hml, hown, hts⟩ (kX3_putRow l dd cI cZ cR cJ q1 q4 le wl wd D en qd (nmR D en w dr) H.size (by omega) (by omega)) ⟨(va_cnB 2 hts gX2_nameEntry_X3_putRow_n85 rfl rfl rfl (hK.2.at 33 rfl) hini_X3 (by decide +kernel) ⟨Nat.le_of_ble_eq_true rfl, Nat.le_of_ble_eq_true rfl⟩), him_X3_putRow, hse_X3_putRow⟩ (pv_m hK hP hD 3 rfl (ci := 3) rfl [3, 4, 5] (by decide) rfl rfl) rfl rfl hl.1 rfl (lv_room (Nat.le_of_ble_eq_true rfl)) dX2_nameEntry_74 ⟨Nat.zero_le _, Nat.zero_le _⟩) (fun r_12 u9 H locs hw hP hD hS => ?_)
        obtain ⟨b_8, D_9, wl_10, wd_11⟩ := u9
        obtain ⟨hr9, hw_13⟩ := hw
        try dsimp only at hr9 hw_13
        subst hr9
        have hP : va_P dd vwCl [(h0, .inr (2, [.ref q1, .ref qd, .ref qt, .int (nI U)])), (h5, .inr (1, [.ref qw, .ref qk, .int (bI op), .int (bI ro), .int (nI st), .int (nI ct), .int (nI pl)])), (qw, .inl (cI, 6, .inl (aN w))), (q1, .inr (3, [.ref q4, .int (bI le), .int (nI wl_10), .int wd_11])), (q4, .inl (cI, 4096, .inl (aN D_9))), (qd, .inl (cI, 16, .inl (aN (nmR D en w dr))))] H := hP
        have hD : va_D A [(h0, .inr (2, [.ref q1, .ref qd, .ref qt, .int (nI U)])), (h5, .inr (1, [.ref qw, .ref qk, .int (bI op), .int (bI ro), .int (nI st), .int (nI ct), .int (nI pl)])), (qw, .inl (cI, 6, .inl (aN w))), (q1, .inr (3, [.ref q4, .int (bI le), .int (nI wl_10), .int wd_11])), (q4, .inl (cI, 4096, .inl (aN D_9))), (qd, .inl (cI, 16, .inl (aN (nmR D en w dr))))] := hD
        have hP9 := hP.sub (ws' := [(h0, .inr (2, [.ref q1, .ref qd, .ref qt, .int (nI U)])), (q1, .inr (3, [.ref q4, .int (bI le), .int (nI wl_10), .int wd_11])), (q4, .inl (cI, 4096, .inl (aN D_9))), (qd, .inl (cI, 16, .inl (aN (nmR D en w dr)))), (h5, .inr (1, [.ref qw, .ref qk, .int (bI op), .int (bI ro), .int (nI st), .int (nI ct), .int (nI pl)])), (qw, .inl (cI, 6, .inl (aN w)))]) [0, 3, 4, 5, 1, 2] rfl
        have hD9 := hD.sub (ws' := [(h0, .inr (2, [.ref q1, .ref qd, .ref qt, .int (nI U)])), (q1, .inr (3, [.ref q4, .int (bI le), .int (nI wl_10), .int wd_11])), (q4, .inl (cI, 4096, .inl (aN D_9))), (qd, .inl (cI, 16, .inl (aN (nmR D en w dr)))), (h5, .inr (1, [.ref qw, .ref qk, .int (bI op), .int (bI ro), .int (nI st), .int (nI ct), .int (nI pl)])), (qw, .inl (cI, 6, .inl (aN w)))]) [0, 3, 4, 5, 1, 2] (by decide) rfl
        exact W.zret (v := bI b_8) hx hb hr (bI_nar _) (fun t ht hW => ⟨⟨bI b_8, (b_8, D_9, wl_10, wd_11), rfl, ⟨rfl, hw_13⟩, by rw [ht]; exact hP9, hD9⟩, hS.F ht⟩) hS.2.2 dX2_nameEntry_77
      · refine lv_aload_n hx hb dX2_nameEntry_33 rfl (lv_at hl 2 rfl) ?_
        refine va_get (D := dd) (ci := 2) (v := .ref qd) (C := RX2) (T := TX2) (N := 4) hx hb hts hin_X2 hown hK.1 hP 0 rfl rfl 1 (by decide) hf_9 (fun _ h9 => h9) rfl dX2_nameEntry_34 ?_
        refine lv_iconst (v := nI 1) hx hb dX2_nameEntry_37 (by decide) ?_
        refine lv_iload hx hb dX2_nameEntry_38 (lv_at hl 0 rfl) ?_
        refine nr_iadd (k + 1) (by omega) hx hb dX2_nameEntry_40 ?_
        refine lv_aload_n hx hb dX2_nameEntry_41 rfl (lv_at hl 4 rfl) ?_
        refine va_getN (D := dd) (ci := 1) (v := .ref qw) (C := RX1) (T := TX1) (N := 7) hx hb hts hin_X1 hown hK.1 hP 1 rfl rfl 0 (by decide) (hK.2.use 9 rfl) (fun _ h9 => h9) rfl dX2_nameEntry_42 ?_
        refine lv_iload hx hb dX2_nameEntry_45 (lv_at hl 0 rfl) ?_
        refine nr_iald (f := w) hx hb hK hP 2 rfl (by omega) (by decide) dX2_nameEntry_47 ?_
        have hv_14 := hwb k
        refine nr_iast (f := va_cpy w (gtR D en dr) 0 1 k) (v := w k) hx hb hK hP hD hS 5 rfl (by omega) (by decide) dX2_nameEntry_48 (fun H locs hP hD hS => ?_)
        have hP : va_P dd vwCl [(h0, .inr (2, [.ref q1, .ref qd, .ref qt, .int (nI U)])), (h5, .inr (1, [.ref qw, .ref qk, .int (bI op), .int (bI ro), .int (nI st), .int (nI ct), .int (nI pl)])), (qw, .inl (cI, 6, .inl (aN w))), (q1, .inr (3, [.ref q4, .int (bI le), .int (nI wl), .int wd])), (q4, .inl (cI, 4096, .inl (aN D))), (qd, .inl (cI, 16, .inl (aN (va_up (va_cpy w (gtR D en dr) 0 1 k) (k + 1) (w k)))))] H := hP
        have hD : va_D A [(h0, .inr (2, [.ref q1, .ref qd, .ref qt, .int (nI U)])), (h5, .inr (1, [.ref qw, .ref qk, .int (bI op), .int (bI ro), .int (nI st), .int (nI ct), .int (nI pl)])), (qw, .inl (cI, 6, .inl (aN w))), (q1, .inr (3, [.ref q4, .int (bI le), .int (nI wl), .int wd])), (q4, .inl (cI, 4096, .inl (aN D))), (qd, .inl (cI, 16, .inl (aN (va_up (va_cpy w (gtR D en dr) 0 1 k) (k + 1) (w k)))))] := hD
        have hu_15 : va_up (va_cpy w (gtR D en dr) 0 1 k) (k + 1) (w k) = va_cpy w (gtR D en dr) 0 1 (k + 1) := cpy_up (by omega) (by rw [Nat.zero_add])
        rw [hu_15] at hP hD
        refine lv_iinc (v := nI (k + 1)) (lv' := [(4, .int (nI (k + 1))), (3, .int (nI (((D (16 * en + 5)) / 128 * 128)))), (0, .ref h0), (1, .int (nI en)), (2, .ref h5)]) hx hb dX2_nameEntry_49 hl (k := 0) rfl (nr_inc _ _ (by omega)) (by decide) rfl (fun ls hl => ?_)
        refine lv_goto (tgt := 26) hx hb dX2_nameEntry_52 (by decide) ?_
        exact ih_5 (k + 1) (by omega) (by omega) _ _ hP hD hS ls (lv_sub hl [0, 1, 2, 3, 4] rfl)
  exact loop_4 (6 + 1) 0 (by omega) (by omega) _ _ (by rw [cpy_0]; exact hP) (by rw [cpy_0]; exact hD) hS ls (lv_sub hl [0, 1, 2, 3, 4] rfl)

set_option maxHeartbeats 4000000 in
set_option maxRecDepth 100000 in
theorem kX2_guardEntry (l : Launch) (dd : va_G) (cI cZ cR cJ : ClassId) (h0 : Nat) (q1 : Nat) (qd : Nat) (qt : Nat) (U : Nat) (q4 : Nat) (le : Bool) (wl : Nat) (wd : Int32) (D : Nat → Nat) (dr : Nat → Nat) (gd : Bool) (en : Nat) (sz : Nat) (he : en < 32) (hwl : wl ≤ 1000) (hDb : ∀ j, D j < 256) : Met l yX2_guardEntry wsX2_guardEntry ({ frames := 1, cells := 0, slots := 0, locals := 23 }) (va_Pc [.ref h0, .int (nI en), .int (bI gd)] (qm dd cI cZ cR cJ sz [(h0, .inr (2, [.ref q1, .ref qd, .ref qt, .int (nI U)])), (q1, .inr (3, [.ref q4, .int (bI le), .int (nI wl), .int wd])), (q4, .inl (cI, 4096, .inl (aN D))), (qd, .inl (cI, 16, .inl (aN dr)))])) (va_Qi (fun (r : Int32) (u : Bool × (Nat → Nat) × Nat × Int32) => r = bI u.1 ∧ ((u.1, u.2.1, u.2.2.1, u.2.2.2) = mPut le wl wd D en (gdR D en gd dr))) (fun u t => qa dd (va_A [(h0, .inr (2, [.ref q1, .ref qd, .ref qt, .int (nI U)])), (q1, .inr (3, [.ref q4, .int (bI le), .int (nI wl), .int wd])), (q4, .inl (cI, 4096, .inl (aN D))), (qd, .inl (cI, 16, .inl (aN dr)))] sz) [(h0, .inr (2, [.ref q1, .ref qd, .ref qt, .int (nI U)])), (q1, .inr (3, [.ref q4, .int (bI le), .int (nI (u.2.2.1)), .int u.2.2.2])), (q4, .inl (cI, 4096, .inl (aN u.2.1))), (qd, .inl (cI, 16, .inl (aN (gdR D en gd dr))))] t) (va_A [(h0, .inr (2, [.ref q1, .ref qd, .ref qt, .int (nI U)])), (q1, .inr (3, [.ref q4, .int (bI le), .int (nI wl), .int wd])), (q4, .inl (cI, 4096, .inl (aN D))), (qd, .inl (cI, 16, .inl (aN dr)))] sz)) 0 0 (va_A [(h0, .inr (2, [.ref q1, .ref qd, .ref qt, .int (nI U)])), (q1, .inr (3, [.ref q4, .int (bI le), .int (nI wl), .int wd])), (q4, .inl (cI, 4096, .inl (aN D))), (qd, .inl (cI, 16, .inl (aN dr)))] sz) := by
  refine mk_mut (cc := cX2_guardEntry) (maxL := 3) (ret := (some .boolean)) (Qf := fun A => va_Qi (fun (r : Int32) (u : Bool × (Nat → Nat) × Nat × Int32) => r = bI u.1 ∧ ((u.1, u.2.1, u.2.2.1, u.2.2.2) = mPut le wl wd D en (gdR D en gd dr))) (fun u t => qa dd A [(h0, .inr (2, [.ref q1, .ref qd, .ref qt, .int (nI U)])), (q1, .inr (3, [.ref q4, .int (bI le), .int (nI (u.2.2.1)), .int u.2.2.2])), (q4, .inl (cI, 4096, .inl (aN u.2.1))), (qd, .inl (cI, 16, .inl (aN (gdR D en gd dr))))] t) A) (by decide) rfl (Nat.le_of_ble_eq_true rfl) ?_
  intro p e s m below meth c A hx hb hr hts hown hlocks hml hin hP hD hA hS hK ls hl
  have hown : s.vm.findClass RX2 = some m.cls := hown
  have hl : lv_has ls 3 [(0, .ref h0), (1, .int (nI en)), (2, .int (bI gd))] := hl
  have hf_18 := hts (.fieldLink RX2 18 "RecordSystem$Directory" "store" "LRecordSystem$Disk;") (by decide +kernel)
  have hin_X2 : ∀ w ∈ wsX20, w ∈ wsX2_guardEntry := by decide +kernel
  have hf_9 := hts (.fieldLink RX2 9 "RecordSystem$Directory" "draft" "[I") (by decide +kernel)
  have hini_X3 := hts (.initialized RX3) (by decide +kernel)
  have him_X3_getRow := hts (.instanceMethod yX3_getRow) (by decide +kernel)
  have hse_X3_getRow := hts (.selects RX3 yX3_getRow yX3_getRow) (by decide +kernel)
  have him_X3_putRow := hts (.instanceMethod yX3_putRow) (by decide +kernel)
  have hse_X3_putRow := hts (.selects RX3 yX3_putRow yX3_putRow) (by decide +kernel)
  refine lv_aload_n hx hb dX2_guardEntry_0 rfl (lv_at hl 0 rfl) ?_
  refine va_get (D := dd) (ci := 2) (v := .ref q1) (C := RX2) (T := TX2) (N := 4) hx hb hts hin_X2 hown hK.1 hP 0 rfl rfl 0 (by decide) hf_18 (fun _ h9 => h9) rfl dX2_guardEntry_1 ?_
  refine lv_iload_n hx hb dX2_guardEntry_4 rfl (lv_at hl 1 rfl) ?_
  refine lv_aload_n hx hb dX2_guardEntry_5 rfl (lv_at hl 0 rfl) ?_
  refine va_get (D := dd) (ci := 2) (v := .ref qd) (C := RX2) (T := TX2) (N := 4) hx hb hts hin_X2 hown hK.1 hP 0 rfl rfl 1 (by decide) hf_9 (fun _ h9 => h9) rfl dX2_guardEntry_6 ?_
  refine cm_v (wc := [(q1, .inr (3, [.ref q4, .int (bI le), .int (nI wl), .int wd])), (q4, .inl (cI, 4096, .inl (aN D))), (qd, .inl (cI, 16, .inl (aN dr)))]) (wr := [(h0, .inr (2, [.ref q1, .ref qd, .ref qt, .int (nI U)]))]) (w1 := fun u : Unit => [(q1, .inr (3, [.ref q4, .int (bI le), .int (nI wl), .int wd])), (q4, .inl (cI, 4096, .inl (aN D))), (qd, .inl (cI, 16, .inl (aN (gtR D en dr))))]) hP hD hS hA [1, 2, 3] [0] rfl rfl (by decide) (by decide) (va_runVN (C := RX3) (As := [.int (nI en), .ref qd]) (rest := []) ⟨hx, hb, hml, hown, hts⟩ (kX3_getRow l dd cI cZ cR cJ q1 q4 le wl wd D en qd dr s.heap.size (by omega)) ⟨(va_cnB 2 hts gX2_guardEntry_X3_getRow_n81 rfl rfl rfl (hK.2.at 35 rfl) hini_X3 (by decide +kernel) ⟨Nat.le_of_ble_eq_true rfl, Nat.le_of_ble_eq_true rfl⟩), him_X3_getRow, hse_X3_getRow⟩ (pv_m hK hP hD 1 rfl (ci := 3) rfl [1, 2, 3] (by decide) rfl rfl) rfl rfl hl.1 rfl (lv_room (Nat.le_of_ble_eq_true rfl)) dX2_guardEntry_9 ⟨Nat.zero_le _, Nat.zero_le _⟩) (fun u9 H locs hw hP hD hS => ?_)
  have hw_2 := hw
  try dsimp only at hw_2
  have hP : va_P dd vwCl [(h0, .inr (2, [.ref q1, .ref qd, .ref qt, .int (nI U)])), (q1, .inr (3, [.ref q4, .int (bI le), .int (nI wl), .int wd])), (q4, .inl (cI, 4096, .inl (aN D))), (qd, .inl (cI, 16, .inl (aN (gtR D en dr))))] H := hP
  have hD : va_D A [(h0, .inr (2, [.ref q1, .ref qd, .ref qt, .int (nI U)])), (q1, .inr (3, [.ref q4, .int (bI le), .int (nI wl), .int wd])), (q4, .inl (cI, 4096, .inl (aN D))), (qd, .inl (cI, 16, .inl (aN (gtR D en dr))))] := hD
  refine lv_aload_n hx hb dX2_guardEntry_12 rfl (lv_at hl 0 rfl) ?_
  refine va_get (D := dd) (ci := 2) (v := .ref qd) (C := RX2) (T := TX2) (N := 4) hx hb hts hin_X2 hown hK.1 hP 0 rfl rfl 1 (by decide) hf_9 (fun _ h9 => h9) rfl dX2_guardEntry_13 ?_
  refine lv_iconst (v := nI 5) hx hb dX2_guardEntry_16 (by decide) ?_
  refine lv_aload_n hx hb dX2_guardEntry_17 rfl (lv_at hl 0 rfl) ?_
  refine va_get (D := dd) (ci := 2) (v := .ref qd) (C := RX2) (T := TX2) (N := 4) hx hb hts hin_X2 hown hK.1 hP 0 rfl rfl 1 (by decide) hf_9 (fun _ h9 => h9) rfl dX2_guardEntry_18 ?_
  refine lv_iconst (v := nI 5) hx hb dX2_guardEntry_21 (by decide) ?_
  refine nr_iald (f := gtR D en dr) hx hb hK hP 3 rfl (by omega) (by decide) dX2_guardEntry_22 ?_
  refine nr_top (b := D (16 * en + 5)) (pk_cpy_in (by omega) (by omega)) ?_
  have hv_3 := hDb (16 * en + 5)
  refine lv_bipush (v := nI 127) hx hb dX2_guardEntry_23 (by decide) ?_
  refine nr_iand127 (((D (16 * en + 5)) % 128)) (by omega) hx hb (by omega) dX2_guardEntry_25 ?_
  refine lv_iload_n hx hb dX2_guardEntry_26 rfl (lv_at hl 2 rfl) ?_
  refine br_if_eq (tgt := 36) hx hb dX2_guardEntry_27 (by decide) (fun c_27 => ?_) (fun c_27 => ?_)
  · refine lv_iconst (v := nI 0) hx hb dX2_guardEntry_36 (by decide) ?_
    refine nr_ior (((D (16 * en + 5)) % 128)) (by omega) hx hb (by omega) (by omega) dX2_guardEntry_37 ?_
    refine nr_iast (f := gtR D en dr) (v := ((D (16 * en + 5)) % 128)) hx hb hK hP hD hS 3 rfl (by omega) (by decide) dX2_guardEntry_38 (fun H locs hP hD hS => ?_)
    have hP : va_P dd vwCl [(h0, .inr (2, [.ref q1, .ref qd, .ref qt, .int (nI U)])), (q1, .inr (3, [.ref q4, .int (bI le), .int (nI wl), .int wd])), (q4, .inl (cI, 4096, .inl (aN D))), (qd, .inl (cI, 16, .inl (aN (va_up (gtR D en dr) 5 ((D (16 * en + 5)) % 128)))))] H := hP
    have hD : va_D A [(h0, .inr (2, [.ref q1, .ref qd, .ref qt, .int (nI U)])), (q1, .inr (3, [.ref q4, .int (bI le), .int (nI wl), .int wd])), (q4, .inl (cI, 4096, .inl (aN D))), (qd, .inl (cI, 16, .inl (aN (va_up (gtR D en dr) 5 ((D (16 * en + 5)) % 128)))))] := hD
    have hu_4 : va_up (gtR D en dr) 5 ((D (16 * en + 5)) % 128) = gdR D en gd dr := by simp [gdR, c_27]
    rw [hu_4] at hP hD
    refine lv_aload_n hx hb dX2_guardEntry_39 rfl (lv_at hl 0 rfl) ?_
    refine va_get (D := dd) (ci := 2) (v := .ref q1) (C := RX2) (T := TX2) (N := 4) hx hb hts hin_X2 hown hK.1 hP 0 rfl rfl 0 (by decide) hf_18 (fun _ h9 => h9) rfl dX2_guardEntry_40 ?_
    refine lv_iload_n hx hb dX2_guardEntry_43 rfl (lv_at hl 1 rfl) ?_
    refine lv_aload_n hx hb dX2_guardEntry_44 rfl (lv_at hl 0 rfl) ?_
    refine va_get (D := dd) (ci := 2) (v := .ref qd) (C := RX2) (T := TX2) (N := 4) hx hb hts hin_X2 hown hK.1 hP 0 rfl rfl 1 (by decide) hf_9 (fun _ h9 => h9) rfl dX2_guardEntry_45 ?_
    refine cm_i (wc := [(q1, .inr (3, [.ref q4, .int (bI le), .int (nI wl), .int wd])), (q4, .inl (cI, 4096, .inl (aN D))), (qd, .inl (cI, 16, .inl (aN (gdR D en gd dr))))]) (wr := [(h0, .inr (2, [.ref q1, .ref qd, .ref qt, .int (nI U)]))]) (w1 := fun u : Bool × (Nat → Nat) × Nat × Int32 => [(q1, .inr (3, [.ref q4, .int (bI le), .int (nI (u.2.2.1)), .int u.2.2.2])), (q4, .inl (cI, 4096, .inl (aN u.2.1))), (qd, .inl (cI, 16, .inl (aN (gdR D en gd dr))))]) hP hD hS hA [1, 2, 3] [0] rfl rfl (by decide) (by decide) (va_runVN (C := RX3) (As := [.int (nI en), .ref qd]) (rest := []) ⟨hx, hb, hml, hown, hts⟩ (kX3_putRow l dd cI cZ cR cJ q1 q4 le wl wd D en qd (gdR D en gd dr) H.size (by omega) (by omega)) ⟨(va_cnB 2 hts gX2_guardEntry_X3_putRow_n85 rfl rfl rfl (hK.2.at 33 rfl) hini_X3 (by decide +kernel) ⟨Nat.le_of_ble_eq_true rfl, Nat.le_of_ble_eq_true rfl⟩), him_X3_putRow, hse_X3_putRow⟩ (pv_m hK hP hD 1 rfl (ci := 3) rfl [1, 2, 3] (by decide) rfl rfl) rfl rfl hl.1 rfl (lv_room (Nat.le_of_ble_eq_true rfl)) dX2_guardEntry_48 ⟨Nat.zero_le _, Nat.zero_le _⟩) (fun r_9 u9 H locs hw hP hD hS => ?_)
    obtain ⟨b_5, D_6, wl_7, wd_8⟩ := u9
    obtain ⟨hr9, hw_10⟩ := hw
    try dsimp only at hr9 hw_10
    subst hr9
    have hP : va_P dd vwCl [(h0, .inr (2, [.ref q1, .ref qd, .ref qt, .int (nI U)])), (q1, .inr (3, [.ref q4, .int (bI le), .int (nI wl_7), .int wd_8])), (q4, .inl (cI, 4096, .inl (aN D_6))), (qd, .inl (cI, 16, .inl (aN (gdR D en gd dr))))] H := hP
    have hD : va_D A [(h0, .inr (2, [.ref q1, .ref qd, .ref qt, .int (nI U)])), (q1, .inr (3, [.ref q4, .int (bI le), .int (nI wl_7), .int wd_8])), (q4, .inl (cI, 4096, .inl (aN D_6))), (qd, .inl (cI, 16, .inl (aN (gdR D en gd dr))))] := hD
    have hP9 := hP.sub (ws' := [(h0, .inr (2, [.ref q1, .ref qd, .ref qt, .int (nI U)])), (q1, .inr (3, [.ref q4, .int (bI le), .int (nI wl_7), .int wd_8])), (q4, .inl (cI, 4096, .inl (aN D_6))), (qd, .inl (cI, 16, .inl (aN (gdR D en gd dr))))]) [0, 1, 2, 3] rfl
    have hD9 := hD.sub (ws' := [(h0, .inr (2, [.ref q1, .ref qd, .ref qt, .int (nI U)])), (q1, .inr (3, [.ref q4, .int (bI le), .int (nI wl_7), .int wd_8])), (q4, .inl (cI, 4096, .inl (aN D_6))), (qd, .inl (cI, 16, .inl (aN (gdR D en gd dr))))]) [0, 1, 2, 3] (by decide) rfl
    exact W.zret (v := bI b_5) hx hb hr (bI_nar _) (fun t ht hW => ⟨⟨bI b_5, (b_5, D_6, wl_7, wd_8), rfl, ⟨rfl, hw_10⟩, by rw [ht]; exact hP9, hD9⟩, hS.F ht⟩) hS.2.2 dX2_guardEntry_51
  · refine lv_sipush (v := nI 128) hx hb dX2_guardEntry_30 (by decide) ?_
    refine lv_goto (tgt := 37) hx hb dX2_guardEntry_33 (by decide) ?_
    refine nr_ior (((D (16 * en + 5)) % 128) + 128) (by omega) hx hb (by omega) (by omega) dX2_guardEntry_37 ?_
    refine nr_iast (f := gtR D en dr) (v := ((D (16 * en + 5)) % 128) + 128) hx hb hK hP hD hS 3 rfl (by omega) (by decide) dX2_guardEntry_38 (fun H locs hP hD hS => ?_)
    have hP : va_P dd vwCl [(h0, .inr (2, [.ref q1, .ref qd, .ref qt, .int (nI U)])), (q1, .inr (3, [.ref q4, .int (bI le), .int (nI wl), .int wd])), (q4, .inl (cI, 4096, .inl (aN D))), (qd, .inl (cI, 16, .inl (aN (va_up (gtR D en dr) 5 (((D (16 * en + 5)) % 128) + 128)))))] H := hP
    have hD : va_D A [(h0, .inr (2, [.ref q1, .ref qd, .ref qt, .int (nI U)])), (q1, .inr (3, [.ref q4, .int (bI le), .int (nI wl), .int wd])), (q4, .inl (cI, 4096, .inl (aN D))), (qd, .inl (cI, 16, .inl (aN (va_up (gtR D en dr) 5 (((D (16 * en + 5)) % 128) + 128)))))] := hD
    have hu_11 : va_up (gtR D en dr) 5 (((D (16 * en + 5)) % 128) + 128) = gdR D en gd dr := by simp [gdR, c_27]
    rw [hu_11] at hP hD
    refine lv_aload_n hx hb dX2_guardEntry_39 rfl (lv_at hl 0 rfl) ?_
    refine va_get (D := dd) (ci := 2) (v := .ref q1) (C := RX2) (T := TX2) (N := 4) hx hb hts hin_X2 hown hK.1 hP 0 rfl rfl 0 (by decide) hf_18 (fun _ h9 => h9) rfl dX2_guardEntry_40 ?_
    refine lv_iload_n hx hb dX2_guardEntry_43 rfl (lv_at hl 1 rfl) ?_
    refine lv_aload_n hx hb dX2_guardEntry_44 rfl (lv_at hl 0 rfl) ?_
    refine va_get (D := dd) (ci := 2) (v := .ref qd) (C := RX2) (T := TX2) (N := 4) hx hb hts hin_X2 hown hK.1 hP 0 rfl rfl 1 (by decide) hf_9 (fun _ h9 => h9) rfl dX2_guardEntry_45 ?_
    refine cm_i (wc := [(q1, .inr (3, [.ref q4, .int (bI le), .int (nI wl), .int wd])), (q4, .inl (cI, 4096, .inl (aN D))), (qd, .inl (cI, 16, .inl (aN (gdR D en gd dr))))]) (wr := [(h0, .inr (2, [.ref q1, .ref qd, .ref qt, .int (nI U)]))]) (w1 := fun u : Bool × (Nat → Nat) × Nat × Int32 => [(q1, .inr (3, [.ref q4, .int (bI le), .int (nI (u.2.2.1)), .int u.2.2.2])), (q4, .inl (cI, 4096, .inl (aN u.2.1))), (qd, .inl (cI, 16, .inl (aN (gdR D en gd dr))))]) hP hD hS hA [1, 2, 3] [0] rfl rfl (by decide) (by decide) (va_runVN (C := RX3) (As := [.int (nI en), .ref qd]) (rest := []) ⟨hx, hb, hml, hown, hts⟩ (kX3_putRow l dd cI cZ cR cJ q1 q4 le wl wd D en qd (gdR D en gd dr) H.size (by omega) (by omega)) ⟨(va_cnB 2 hts gX2_guardEntry_X3_putRow_n85 rfl rfl rfl (hK.2.at 33 rfl) hini_X3 (by decide +kernel) ⟨Nat.le_of_ble_eq_true rfl, Nat.le_of_ble_eq_true rfl⟩), him_X3_putRow, hse_X3_putRow⟩ (pv_m hK hP hD 1 rfl (ci := 3) rfl [1, 2, 3] (by decide) rfl rfl) rfl rfl hl.1 rfl (lv_room (Nat.le_of_ble_eq_true rfl)) dX2_guardEntry_48 ⟨Nat.zero_le _, Nat.zero_le _⟩) (fun r_16 u9 H locs hw hP hD hS => ?_)
    obtain ⟨b_12, D_13, wl_14, wd_15⟩ := u9
    obtain ⟨hr9, hw_17⟩ := hw
    try dsimp only at hr9 hw_17
    subst hr9
    have hP : va_P dd vwCl [(h0, .inr (2, [.ref q1, .ref qd, .ref qt, .int (nI U)])), (q1, .inr (3, [.ref q4, .int (bI le), .int (nI wl_14), .int wd_15])), (q4, .inl (cI, 4096, .inl (aN D_13))), (qd, .inl (cI, 16, .inl (aN (gdR D en gd dr))))] H := hP
    have hD : va_D A [(h0, .inr (2, [.ref q1, .ref qd, .ref qt, .int (nI U)])), (q1, .inr (3, [.ref q4, .int (bI le), .int (nI wl_14), .int wd_15])), (q4, .inl (cI, 4096, .inl (aN D_13))), (qd, .inl (cI, 16, .inl (aN (gdR D en gd dr))))] := hD
    have hP9 := hP.sub (ws' := [(h0, .inr (2, [.ref q1, .ref qd, .ref qt, .int (nI U)])), (q1, .inr (3, [.ref q4, .int (bI le), .int (nI wl_14), .int wd_15])), (q4, .inl (cI, 4096, .inl (aN D_13))), (qd, .inl (cI, 16, .inl (aN (gdR D en gd dr))))]) [0, 1, 2, 3] rfl
    have hD9 := hD.sub (ws' := [(h0, .inr (2, [.ref q1, .ref qd, .ref qt, .int (nI U)])), (q1, .inr (3, [.ref q4, .int (bI le), .int (nI wl_14), .int wd_15])), (q4, .inl (cI, 4096, .inl (aN D_13))), (qd, .inl (cI, 16, .inl (aN (gdR D en gd dr))))]) [0, 1, 2, 3] (by decide) rfl
    exact W.zret (v := bI b_12) hx hb hr (bI_nar _) (fun t ht hW => ⟨⟨bI b_12, (b_12, D_13, wl_14, wd_15), rfl, ⟨rfl, hw_17⟩, by rw [ht]; exact hP9, hD9⟩, hS.F ht⟩) hS.2.2 dX2_guardEntry_51

set_option maxHeartbeats 4000000 in
set_option maxRecDepth 100000 in
theorem kX2_countBlocks (l : Launch) (dd : va_G) (cI cZ cR cJ : ClassId) (h0 : Nat) (q1 : Nat) (qd : Nat) (qt : Nat) (U : Nat) (q4 : Nat) (le : Bool) (wl : Nat) (wd : Int32) (D : Nat → Nat) (tl : Nat → Nat) (en : Nat) (sz : Nat) (he : en < 32) (hDb : ∀ j, D j < 256) : Met l yX2_countBlocks wsX2_countBlocks ({ frames := 2, cells := 0, slots := 0, locals := 44 }) (va_Pc [.ref h0, .int (nI en)] (qm dd cI cZ cR cJ sz [(h0, .inr (2, [.ref q1, .ref qd, .ref qt, .int (nI U)])), (q1, .inr (3, [.ref q4, .int (bI le), .int (nI wl), .int wd])), (q4, .inl (cI, 4096, .inl (aN D))), (qt, .inl (cI, 64, .inl (aN tl)))])) (va_Qv (fun u : Unit => True) (fun u t => qa dd (va_A [(h0, .inr (2, [.ref q1, .ref qd, .ref qt, .int (nI U)])), (q1, .inr (3, [.ref q4, .int (bI le), .int (nI wl), .int wd])), (q4, .inl (cI, 4096, .inl (aN D))), (qt, .inl (cI, 64, .inl (aN tl)))] sz) [(h0, .inr (2, [.ref q1, .ref qd, .ref qt, .int (nI U)])), (q1, .inr (3, [.ref q4, .int (bI le), .int (nI wl), .int wd])), (q4, .inl (cI, 4096, .inl (aN D))), (qt, .inl (cI, 64, .inl (aN (tlB D en tl 7))))] t) (va_A [(h0, .inr (2, [.ref q1, .ref qd, .ref qt, .int (nI U)])), (q1, .inr (3, [.ref q4, .int (bI le), .int (nI wl), .int wd])), (q4, .inl (cI, 4096, .inl (aN D))), (qt, .inl (cI, 64, .inl (aN tl)))] sz)) 0 0 (va_A [(h0, .inr (2, [.ref q1, .ref qd, .ref qt, .int (nI U)])), (q1, .inr (3, [.ref q4, .int (bI le), .int (nI wl), .int wd])), (q4, .inl (cI, 4096, .inl (aN D))), (qt, .inl (cI, 64, .inl (aN tl)))] sz) := by
  refine mk_mut (cc := cX2_countBlocks) (maxL := 3) (ret := none) (Qf := fun A => va_Qv (fun u : Unit => True) (fun u t => qa dd A [(h0, .inr (2, [.ref q1, .ref qd, .ref qt, .int (nI U)])), (q1, .inr (3, [.ref q4, .int (bI le), .int (nI wl), .int wd])), (q4, .inl (cI, 4096, .inl (aN D))), (qt, .inl (cI, 64, .inl (aN (tlB D en tl 7))))] t) A) (by decide) rfl (Nat.le_of_ble_eq_true rfl) ?_
  intro p e s m below meth c A hx hb hr hts hown hlocks hml hin hP hD hA hS hK ls hl
  have hown : s.vm.findClass RX2 = some m.cls := hown
  have hl : lv_has ls 3 [(0, .ref h0), (1, .int (nI en))] := hl
  have hf_15 := hts (.fieldLink RX2 15 "RecordSystem$Directory" "tellers" "[I") (by decide +kernel)
  have hin_X2 : ∀ w ∈ wsX20, w ∈ wsX2_countBlocks := by decide +kernel
  refine lv_iconst (v := nI 0) hx hb dX2_countBlocks_0 (by decide) ?_
  refine lv_istore_n (lv' := [(2, .int (nI 0)), (0, .ref h0), (1, .int (nI en))]) hx hb dX2_countBlocks_1 rfl hl (by decide) rfl (fun ls hl => ?_)
  have loop_1 : ∀ (n k : Nat), k ≤ 7 → 7 + 1 ≤ k + n → ∀ (H : Heap) (locs : List Loc), va_P dd vwCl [(h0, .inr (2, [.ref q1, .ref qd, .ref qt, .int (nI U)])), (q1, .inr (3, [.ref q4, .int (bI le), .int (nI wl), .int wd])), (q4, .inl (cI, 4096, .inl (aN D))), (qt, .inl (cI, 64, .inl (aN (tlB D en tl k))))] H → va_D A [(h0, .inr (2, [.ref q1, .ref qd, .ref qt, .int (nI U)])), (q1, .inr (3, [.ref q4, .int (bI le), .int (nI wl), .int wd])), (q4, .inl (cI, 4096, .inl (aN D))), (qt, .inl (cI, 64, .inl (aN (tlB D en tl k))))] → va_S A s.heap H locs → ∀ ls : Array Slot, lv_has ls 3 [(2, .int (nI k)), (0, .ref h0), (1, .int (nI en))] → W p l e (({ frames := 2, cells := 0, slots := 0, locals := 44 } : Room)) s m ([.ref h0, .int (nI en)] : List Value).toArray below meth c H locs 0 0 (MQ below (va_Qv (fun u : Unit => True) (fun u t => qa dd A [(h0, .inr (2, [.ref q1, .ref qd, .ref qt, .int (nI U)])), (q1, .inr (3, [.ref q4, .int (bI le), .int (nI wl), .int wd])), (q4, .inl (cI, 4096, .inl (aN D))), (qt, .inl (cI, 64, .inl (aN (tlB D en tl 7))))] t) A) ([.ref h0, .int (nI en)] : List Value).toArray s 0 0 A) (F0 m 2 ls []) := by
    intro n
    induction n with
    | zero => intro k h1 h2; exact absurd h2 (by omega)
    | succ n ih =>
      intro k hk_k hn_k H locs hP hD hS ls hl
      have ih_2 := ih
      refine lv_iload_n hx hb dX2_countBlocks_2 rfl (lv_at hl 0 rfl) ?_
      refine lv_bipush (v := nI 7) hx hb dX2_countBlocks_3 (by decide) ?_
      refine nr_ge (tgt := 32) hx hb (by omega) (by omega) dX2_countBlocks_5 (by decide) (fun c_5 => ?_) (fun c_5 => ?_)
      · have ek_k : k = 7 := by omega
        subst ek_k
        have hP9 := hP.sub (ws' := [(h0, .inr (2, [.ref q1, .ref qd, .ref qt, .int (nI U)])), (q1, .inr (3, [.ref q4, .int (bI le), .int (nI wl), .int wd])), (q4, .inl (cI, 4096, .inl (aN D))), (qt, .inl (cI, 64, .inl (aN (tlB D en tl 7))))]) [0, 1, 2, 3] rfl
        have hD9 := hD.sub (ws' := [(h0, .inr (2, [.ref q1, .ref qd, .ref qt, .int (nI U)])), (q1, .inr (3, [.ref q4, .int (bI le), .int (nI wl), .int wd])), (q4, .inl (cI, 4096, .inl (aN D))), (qt, .inl (cI, 64, .inl (aN (tlB D en tl 7))))]) [0, 1, 2, 3] (by decide) rfl
        exact W.vret hx hb hr (fun t ht hW => ⟨⟨(), rfl, trivial, by rw [ht]; exact hP9, hD9⟩, hS.F ht⟩) hS.2.2 dX2_countBlocks_32
      · refine lv_aload_n hx hb dX2_countBlocks_8 rfl (lv_at hl 1 rfl) ?_
        refine va_get (D := dd) (ci := 2) (v := .ref qt) (C := RX2) (T := TX2) (N := 4) hx hb hts hin_X2 hown hK.1 hP 0 rfl rfl 2 (by decide) hf_15 (fun _ h9 => h9) rfl dX2_countBlocks_9 ?_
        refine lv_aload_n hx hb dX2_countBlocks_12 rfl (lv_at hl 1 rfl) ?_
        refine lv_iload_n hx hb dX2_countBlocks_13 rfl (lv_at hl 2 rfl) ?_
        refine lv_iload_n hx hb dX2_countBlocks_14 rfl (lv_at hl 0 rfl) ?_
        refine cr_i (va_runV (As := [.int (nI en), .int (nI k)]) (rest := [.ref qt]) ⟨hx, hb, hml, hown, hts⟩ (kX2_blockNumber l dd cI cZ cR cJ h0 q1 qd qt U q4 le wl wd D en k (by omega) (by omega)) (cwV 2 hts gX2_countBlocks_X2_blockNumber rfl rfl rfl (by decide +kernel) ⟨Nat.le_of_ble_eq_true rfl, Nat.le_of_ble_eq_true rfl⟩) (pv_c hK hP 0 rfl (ci := 2) rfl [0, 1, 2] rfl) rfl rfl hl.1 rfl (lv_room (Nat.le_of_ble_eq_true rfl)) dX2_countBlocks_15 ⟨Nat.zero_le _, Nat.zero_le _⟩) ?_
        have hv := hDb (16 * en + k + 9)
        refine lv_bipush (v := nI 64) hx hb dX2_countBlocks_18 (by decide) ?_
        refine nr_irem (((D (16 * en + k + 9)) % 64)) (by omega) hx hb (by omega) (by omega) (by omega) dX2_countBlocks_20 ?_
        refine lv_dup2_11 hx hb dX2_countBlocks_21 rfl rfl ?_
        refine nr_iald (f := tlB D en tl k) hx hb hK hP 3 rfl (by omega) (by decide) dX2_countBlocks_22 ?_
        refine lv_iconst (v := nI 1) hx hb dX2_countBlocks_23 (by decide) ?_
        refine nr_iadd ((tlB D en tl k) ((D (16 * en + k + 9)) % 64) + 1) (by omega) hx hb dX2_countBlocks_24 ?_
        refine nr_iast (f := tlB D en tl k) (v := (tlB D en tl k) ((D (16 * en + k + 9)) % 64) + 1) hx hb hK hP hD hS 3 rfl (by omega) (by decide) dX2_countBlocks_25 (fun H locs hP hD hS => ?_)
        have hP : va_P dd vwCl [(h0, .inr (2, [.ref q1, .ref qd, .ref qt, .int (nI U)])), (q1, .inr (3, [.ref q4, .int (bI le), .int (nI wl), .int wd])), (q4, .inl (cI, 4096, .inl (aN D))), (qt, .inl (cI, 64, .inl (aN (va_up (tlB D en tl k) ((D (16 * en + k + 9)) % 64) ((tlB D en tl k) ((D (16 * en + k + 9)) % 64) + 1)))))] H := hP
        have hD : va_D A [(h0, .inr (2, [.ref q1, .ref qd, .ref qt, .int (nI U)])), (q1, .inr (3, [.ref q4, .int (bI le), .int (nI wl), .int wd])), (q4, .inl (cI, 4096, .inl (aN D))), (qt, .inl (cI, 64, .inl (aN (va_up (tlB D en tl k) ((D (16 * en + k + 9)) % 64) ((tlB D en tl k) ((D (16 * en + k + 9)) % 64) + 1)))))] := hD
        have hu_3 : va_up (tlB D en tl k) ((D (16 * en + k + 9)) % 64) ((tlB D en tl k) ((D (16 * en + k + 9)) % 64) + 1) = tlB D en tl (k + 1) := rfl
        rw [hu_3] at hP hD
        refine lv_iinc (v := nI (k + 1)) (lv' := [(2, .int (nI (k + 1))), (0, .ref h0), (1, .int (nI en))]) hx hb dX2_countBlocks_26 hl (k := 0) rfl (nr_inc _ _ (by omega)) (by decide) rfl (fun ls hl => ?_)
        refine lv_goto (tgt := 2) hx hb dX2_countBlocks_29 (by decide) ?_
        exact ih_2 (k + 1) (by omega) (by omega) _ _ hP hD hS ls (lv_sub hl [0, 1, 2] rfl)
  exact loop_1 (7 + 1) 0 (by omega) (by omega) _ _ hP hD hS ls (lv_sub hl [0, 1, 2] rfl)

set_option maxHeartbeats 4000000 in
set_option maxRecDepth 100000 in
theorem kX2_countTellers (l : Launch) (dd : va_G) (cI cZ cR cJ : ClassId) (h0 : Nat) (q1 : Nat) (qd : Nat) (qt : Nat) (U : Nat) (q4 : Nat) (le : Bool) (wl : Nat) (wd : Int32) (D : Nat → Nat) (tl : Nat → Nat) (sz : Nat) (hDb : ∀ j, D j < 256) : Met l yX2_countTellers wsX2_countTellers ({ frames := 3, cells := 0, slots := 0, locals := 66 }) (va_Pc [.ref h0] (qm dd cI cZ cR cJ sz [(h0, .inr (2, [.ref q1, .ref qd, .ref qt, .int (nI U)])), (q1, .inr (3, [.ref q4, .int (bI le), .int (nI wl), .int wd])), (q4, .inl (cI, 4096, .inl (aN D))), (qt, .inl (cI, 64, .inl (aN tl)))])) (va_Qv (fun u : Unit => True) (fun u t => qa dd (va_A [(h0, .inr (2, [.ref q1, .ref qd, .ref qt, .int (nI U)])), (q1, .inr (3, [.ref q4, .int (bI le), .int (nI wl), .int wd])), (q4, .inl (cI, 4096, .inl (aN D))), (qt, .inl (cI, 64, .inl (aN tl)))] sz) [(h0, .inr (2, [.ref q1, .ref qd, .ref qt, .int (nI U)])), (q1, .inr (3, [.ref q4, .int (bI le), .int (nI wl), .int wd])), (q4, .inl (cI, 4096, .inl (aN D))), (qt, .inl (cI, 64, .inl (aN (tlE D (zzN tl) 32))))] t) (va_A [(h0, .inr (2, [.ref q1, .ref qd, .ref qt, .int (nI U)])), (q1, .inr (3, [.ref q4, .int (bI le), .int (nI wl), .int wd])), (q4, .inl (cI, 4096, .inl (aN D))), (qt, .inl (cI, 64, .inl (aN tl)))] sz)) 0 0 (va_A [(h0, .inr (2, [.ref q1, .ref qd, .ref qt, .int (nI U)])), (q1, .inr (3, [.ref q4, .int (bI le), .int (nI wl), .int wd])), (q4, .inl (cI, 4096, .inl (aN D))), (qt, .inl (cI, 64, .inl (aN tl)))] sz) := by
  refine mk_mut (cc := cX2_countTellers) (maxL := 2) (ret := none) (Qf := fun A => va_Qv (fun u : Unit => True) (fun u t => qa dd A [(h0, .inr (2, [.ref q1, .ref qd, .ref qt, .int (nI U)])), (q1, .inr (3, [.ref q4, .int (bI le), .int (nI wl), .int wd])), (q4, .inl (cI, 4096, .inl (aN D))), (qt, .inl (cI, 64, .inl (aN (tlE D (zzN tl) 32))))] t) A) (by decide) rfl (Nat.le_of_ble_eq_true rfl) ?_
  intro p e s m below meth c A hx hb hr hts hown hlocks hml hin hP hD hA hS hK ls hl
  have hown : s.vm.findClass RX2 = some m.cls := hown
  have hl : lv_has ls 2 [(0, .ref h0)] := hl
  have hf_15 := hts (.fieldLink RX2 15 "RecordSystem$Directory" "tellers" "[I") (by decide +kernel)
  have hin_X2 : ∀ w ∈ wsX20, w ∈ wsX2_countTellers := by decide +kernel
  refine lv_iconst (v := nI 0) hx hb dX2_countTellers_0 (by decide) ?_
  refine lv_istore_n (lv' := [(1, .int (nI 0)), (0, .ref h0)]) hx hb dX2_countTellers_1 rfl hl (by decide) rfl (fun ls hl => ?_)
  have loop_1 : ∀ (n j : Nat), j ≤ 64 → 64 + 1 ≤ j + n → ∀ (H : Heap) (locs : List Loc), va_P dd vwCl [(h0, .inr (2, [.ref q1, .ref qd, .ref qt, .int (nI U)])), (q1, .inr (3, [.ref q4, .int (bI le), .int (nI wl), .int wd])), (q4, .inl (cI, 4096, .inl (aN D))), (qt, .inl (cI, 64, .inl (aN (va_cpy (fun _ => 0) tl 0 0 j))))] H → va_D A [(h0, .inr (2, [.ref q1, .ref qd, .ref qt, .int (nI U)])), (q1, .inr (3, [.ref q4, .int (bI le), .int (nI wl), .int wd])), (q4, .inl (cI, 4096, .inl (aN D))), (qt, .inl (cI, 64, .inl (aN (va_cpy (fun _ => 0) tl 0 0 j))))] → va_S A s.heap H locs → ∀ ls : Array Slot, lv_has ls 2 [(1, .int (nI j)), (0, .ref h0)] → W p l e (({ frames := 3, cells := 0, slots := 0, locals := 66 } : Room)) s m ([.ref h0] : List Value).toArray below meth c H locs 0 0 (MQ below (va_Qv (fun u : Unit => True) (fun u t => qa dd A [(h0, .inr (2, [.ref q1, .ref qd, .ref qt, .int (nI U)])), (q1, .inr (3, [.ref q4, .int (bI le), .int (nI wl), .int wd])), (q4, .inl (cI, 4096, .inl (aN D))), (qt, .inl (cI, 64, .inl (aN (tlE D (zzN tl) 32))))] t) A) ([.ref h0] : List Value).toArray s 0 0 A) (F0 m 2 ls []) := by
    intro n
    induction n with
    | zero => intro j h1 h2; exact absurd h2 (by omega)
    | succ n ih =>
      intro j hk_j hn_j H locs hP hD hS ls hl
      have ih_2 := ih
      refine lv_iload_n hx hb dX2_countTellers_2 rfl (lv_at hl 0 rfl) ?_
      refine lv_bipush (v := nI 64) hx hb dX2_countTellers_3 (by decide) ?_
      refine nr_ge (tgt := 21) hx hb (by omega) (by omega) dX2_countTellers_5 (by decide) (fun c_5 => ?_) (fun c_5 => ?_)
      · have ek_j : j = 64 := by omega
        subst ek_j
        refine lv_iconst (v := nI 0) hx hb dX2_countTellers_21 (by decide) ?_
        refine lv_istore_n (lv' := [(1, .int (nI 0)), (0, .ref h0)]) hx hb dX2_countTellers_22 rfl hl (by decide) rfl (fun ls hl => ?_)
        have loop_3 : ∀ (n k : Nat), k ≤ 32 → 32 + 1 ≤ k + n → ∀ (H : Heap) (locs : List Loc), va_P dd vwCl [(h0, .inr (2, [.ref q1, .ref qd, .ref qt, .int (nI U)])), (q1, .inr (3, [.ref q4, .int (bI le), .int (nI wl), .int wd])), (q4, .inl (cI, 4096, .inl (aN D))), (qt, .inl (cI, 64, .inl (aN (tlE D (zzN tl) k))))] H → va_D A [(h0, .inr (2, [.ref q1, .ref qd, .ref qt, .int (nI U)])), (q1, .inr (3, [.ref q4, .int (bI le), .int (nI wl), .int wd])), (q4, .inl (cI, 4096, .inl (aN D))), (qt, .inl (cI, 64, .inl (aN (tlE D (zzN tl) k))))] → va_S A s.heap H locs → ∀ ls : Array Slot, lv_has ls 2 [(1, .int (nI k)), (0, .ref h0)] → W p l e (({ frames := 3, cells := 0, slots := 0, locals := 66 } : Room)) s m ([.ref h0] : List Value).toArray below meth c H locs 0 0 (MQ below (va_Qv (fun u : Unit => True) (fun u t => qa dd A [(h0, .inr (2, [.ref q1, .ref qd, .ref qt, .int (nI U)])), (q1, .inr (3, [.ref q4, .int (bI le), .int (nI wl), .int wd])), (q4, .inl (cI, 4096, .inl (aN D))), (qt, .inl (cI, 64, .inl (aN (tlE D (zzN tl) 32))))] t) A) ([.ref h0] : List Value).toArray s 0 0 A) (F0 m 23 ls []) := by
          intro n
          induction n with
          | zero => intro k h1 h2; exact absurd h2 (by omega)
          | succ n ih =>
            intro k hk_k hn_k H locs hP hD hS ls hl
            have ih_4 := ih
            refine lv_iload_n hx hb dX2_countTellers_23 rfl (lv_at hl 0 rfl) ?_
            refine lv_bipush (v := nI 32) hx hb dX2_countTellers_24 (by decide) ?_
            refine nr_ge (tgt := 48) hx hb (by omega) (by omega) dX2_countTellers_26 (by decide) (fun c_26 => ?_) (fun c_26 => ?_)
            · have ek_k : k = 32 := by omega
              subst ek_k
              have hP9 := hP.sub (ws' := [(h0, .inr (2, [.ref q1, .ref qd, .ref qt, .int (nI U)])), (q1, .inr (3, [.ref q4, .int (bI le), .int (nI wl), .int wd])), (q4, .inl (cI, 4096, .inl (aN D))), (qt, .inl (cI, 64, .inl (aN (tlE D (zzN tl) 32))))]) [0, 1, 2, 3] rfl
              have hD9 := hD.sub (ws' := [(h0, .inr (2, [.ref q1, .ref qd, .ref qt, .int (nI U)])), (q1, .inr (3, [.ref q4, .int (bI le), .int (nI wl), .int wd])), (q4, .inl (cI, 4096, .inl (aN D))), (qt, .inl (cI, 64, .inl (aN (tlE D (zzN tl) 32))))]) [0, 1, 2, 3] (by decide) rfl
              exact W.vret hx hb hr (fun t ht hW => ⟨⟨(), rfl, trivial, by rw [ht]; exact hP9, hD9⟩, hS.F ht⟩) hS.2.2 dX2_countTellers_48
            · refine lv_aload_n hx hb dX2_countTellers_29 rfl (lv_at hl 1 rfl) ?_
              refine lv_iload_n hx hb dX2_countTellers_30 rfl (lv_at hl 0 rfl) ?_
              refine cr_i (va_runV (As := [.int (nI k)]) (rest := []) ⟨hx, hb, hml, hown, hts⟩ (kX2_isFree l dd cI cZ cR cJ h0 q1 qd qt U q4 le wl wd D k (by omega) hDb) (cwV 1 hts gX2_countTellers_X2_isFree rfl rfl rfl (by decide +kernel) ⟨Nat.le_of_ble_eq_true rfl, Nat.le_of_ble_eq_true rfl⟩) (pv_c hK hP 0 rfl (ci := 2) rfl [0, 1, 2] rfl) rfl rfl hl.1 rfl (lv_room (Nat.le_of_ble_eq_true rfl)) dX2_countTellers_31 ⟨Nat.zero_le _, Nat.zero_le _⟩) ?_
              refine br_if_ne (tgt := 42) hx hb dX2_countTellers_34 (by decide) (fun c_34 => ?_) (fun c_34 => ?_)
              · refine lv_iinc (v := nI (k + 1)) (lv' := [(1, .int (nI (k + 1))), (0, .ref h0)]) hx hb dX2_countTellers_42 hl (k := 0) rfl (nr_inc _ _ (by omega)) (by decide) rfl (fun ls hl => ?_)
                refine lv_goto (tgt := 23) hx hb dX2_countTellers_45 (by decide) ?_
                rw [show tlE D (zzN tl) k = tlE D (zzN tl) (k + 1) by simp [tlE, c_34]] at hP hD
                exact ih_4 (k + 1) (by omega) (by omega) _ _ hP hD hS ls (lv_sub hl [0, 1] rfl)
              · refine lv_aload_n hx hb dX2_countTellers_37 rfl (lv_at hl 1 rfl) ?_
                refine lv_iload_n hx hb dX2_countTellers_38 rfl (lv_at hl 0 rfl) ?_
                refine cm_v (wc := [(h0, .inr (2, [.ref q1, .ref qd, .ref qt, .int (nI U)])), (q1, .inr (3, [.ref q4, .int (bI le), .int (nI wl), .int wd])), (q4, .inl (cI, 4096, .inl (aN D))), (qt, .inl (cI, 64, .inl (aN (tlE D (zzN tl) k))))]) (wr := []) (w1 := fun u : Unit => [(h0, .inr (2, [.ref q1, .ref qd, .ref qt, .int (nI U)])), (q1, .inr (3, [.ref q4, .int (bI le), .int (nI wl), .int wd])), (q4, .inl (cI, 4096, .inl (aN D))), (qt, .inl (cI, 64, .inl (aN (tlB D k (tlE D (zzN tl) k) 7))))]) hP hD hS hA [0, 1, 2, 3] [] rfl rfl (by decide) (by decide) (va_runV (As := [.int (nI k)]) (rest := []) ⟨hx, hb, hml, hown, hts⟩ (kX2_countBlocks l dd cI cZ cR cJ h0 q1 qd qt U q4 le wl wd D (tlE D (zzN tl) k) k H.size (by omega) hDb) (cwV 1 hts gX2_countTellers_X2_countBlocks rfl rfl rfl (by decide +kernel) ⟨Nat.le_of_ble_eq_true rfl, Nat.le_of_ble_eq_true rfl⟩) (pv_m hK hP hD 0 rfl (ci := 2) rfl [0, 1, 2, 3] (by decide) rfl rfl) rfl rfl hl.1 rfl (lv_room (Nat.le_of_ble_eq_true rfl)) dX2_countTellers_39 ⟨Nat.zero_le _, Nat.zero_le _⟩) (fun u9 H locs hw hP hD hS => ?_)
                have hw_6 := hw
                try dsimp only at hw_6
                have hP : va_P dd vwCl [(h0, .inr (2, [.ref q1, .ref qd, .ref qt, .int (nI U)])), (q1, .inr (3, [.ref q4, .int (bI le), .int (nI wl), .int wd])), (q4, .inl (cI, 4096, .inl (aN D))), (qt, .inl (cI, 64, .inl (aN (tlB D k (tlE D (zzN tl) k) 7))))] H := hP
                have hD : va_D A [(h0, .inr (2, [.ref q1, .ref qd, .ref qt, .int (nI U)])), (q1, .inr (3, [.ref q4, .int (bI le), .int (nI wl), .int wd])), (q4, .inl (cI, 4096, .inl (aN D))), (qt, .inl (cI, 64, .inl (aN (tlB D k (tlE D (zzN tl) k) 7))))] := hD
                refine lv_iinc (v := nI (k + 1)) (lv' := [(1, .int (nI (k + 1))), (0, .ref h0)]) hx hb dX2_countTellers_42 hl (k := 0) rfl (nr_inc _ _ (by omega)) (by decide) rfl (fun ls hl => ?_)
                refine lv_goto (tgt := 23) hx hb dX2_countTellers_45 (by decide) ?_
                rw [show tlB D k (tlE D (zzN tl) k) 7 = tlE D (zzN tl) (k + 1) by simp [tlE, c_34]] at hP hD
                exact ih_4 (k + 1) (by omega) (by omega) _ _ hP hD hS ls (lv_sub hl [0, 1] rfl)
        exact loop_3 (32 + 1) 0 (by omega) (by omega) _ _ hP hD hS ls (lv_sub hl [0, 1] rfl)
      · refine lv_aload_n hx hb dX2_countTellers_8 rfl (lv_at hl 1 rfl) ?_
        refine va_get (D := dd) (ci := 2) (v := .ref qt) (C := RX2) (T := TX2) (N := 4) hx hb hts hin_X2 hown hK.1 hP 0 rfl rfl 2 (by decide) hf_15 (fun _ h9 => h9) rfl dX2_countTellers_9 ?_
        refine lv_iload_n hx hb dX2_countTellers_12 rfl (lv_at hl 0 rfl) ?_
        refine lv_iconst (v := nI 0) hx hb dX2_countTellers_13 (by decide) ?_
        refine nr_iast (f := va_cpy (fun _ => 0) tl 0 0 j) (v := 0) hx hb hK hP hD hS 3 rfl (by omega) (by decide) dX2_countTellers_14 (fun H locs hP hD hS => ?_)
        have hP : va_P dd vwCl [(h0, .inr (2, [.ref q1, .ref qd, .ref qt, .int (nI U)])), (q1, .inr (3, [.ref q4, .int (bI le), .int (nI wl), .int wd])), (q4, .inl (cI, 4096, .inl (aN D))), (qt, .inl (cI, 64, .inl (aN (va_up (va_cpy (fun _ => 0) tl 0 0 j) j 0))))] H := hP
        have hD : va_D A [(h0, .inr (2, [.ref q1, .ref qd, .ref qt, .int (nI U)])), (q1, .inr (3, [.ref q4, .int (bI le), .int (nI wl), .int wd])), (q4, .inl (cI, 4096, .inl (aN D))), (qt, .inl (cI, 64, .inl (aN (va_up (va_cpy (fun _ => 0) tl 0 0 j) j 0))))] := hD
        have hu_7 : va_up (va_cpy (fun _ => 0) tl 0 0 j) j 0 = va_cpy (fun _ => 0) tl 0 0 (j + 1) := cpy_up (by omega) rfl
        rw [hu_7] at hP hD
        refine lv_iinc (v := nI (j + 1)) (lv' := [(1, .int (nI (j + 1))), (0, .ref h0)]) hx hb dX2_countTellers_15 hl (k := 0) rfl (nr_inc _ _ (by omega)) (by decide) rfl (fun ls hl => ?_)
        refine lv_goto (tgt := 2) hx hb dX2_countTellers_18 (by decide) ?_
        exact ih_2 (j + 1) (by omega) (by omega) _ _ hP hD hS ls (lv_sub hl [0, 1] rfl)
  exact loop_1 (64 + 1) 0 (by omega) (by omega) _ _ (by rw [cpy_0]; exact hP) (by rw [cpy_0]; exact hD) hS ls (lv_sub hl [0, 1] rfl)

set_option maxHeartbeats 4000000 in
set_option maxRecDepth 100000 in
theorem kX2_blocksToldTwice (l : Launch) (dd : va_G) (cI cZ cR cJ : ClassId) (h0 : Nat) (q1 : Nat) (qd : Nat) (qt : Nat) (U : Nat) (q4 : Nat) (le : Bool) (wl : Nat) (wd : Int32) (D : Nat → Nat) (tl : Nat → Nat) (sz : Nat) (hDb : ∀ j, D j < 256) : Met l yX2_blocksToldTwice wsX2_blocksToldTwice ({ frames := 4, cells := 0, slots := 0, locals := 87 }) (va_Pc [.ref h0] (qm dd cI cZ cR cJ sz [(h0, .inr (2, [.ref q1, .ref qd, .ref qt, .int (nI U)])), (q1, .inr (3, [.ref q4, .int (bI le), .int (nI wl), .int wd])), (q4, .inl (cI, 4096, .inl (aN D))), (qt, .inl (cI, 64, .inl (aN tl)))])) (va_Qi (fun (r : Int32) (u : Unit) => r = nI (cnt (mtB (tlE D (zzN tl) 32)) 64)) (fun u t => qa dd (va_A [(h0, .inr (2, [.ref q1, .ref qd, .ref qt, .int (nI U)])), (q1, .inr (3, [.ref q4, .int (bI le), .int (nI wl), .int wd])), (q4, .inl (cI, 4096, .inl (aN D))), (qt, .inl (cI, 64, .inl (aN tl)))] sz) [(h0, .inr (2, [.ref q1, .ref qd, .ref qt, .int (nI U)])), (q1, .inr (3, [.ref q4, .int (bI le), .int (nI wl), .int wd])), (q4, .inl (cI, 4096, .inl (aN D))), (qt, .inl (cI, 64, .inl (aN (tlE D (zzN tl) 32))))] t) (va_A [(h0, .inr (2, [.ref q1, .ref qd, .ref qt, .int (nI U)])), (q1, .inr (3, [.ref q4, .int (bI le), .int (nI wl), .int wd])), (q4, .inl (cI, 4096, .inl (aN D))), (qt, .inl (cI, 64, .inl (aN tl)))] sz)) 0 0 (va_A [(h0, .inr (2, [.ref q1, .ref qd, .ref qt, .int (nI U)])), (q1, .inr (3, [.ref q4, .int (bI le), .int (nI wl), .int wd])), (q4, .inl (cI, 4096, .inl (aN D))), (qt, .inl (cI, 64, .inl (aN tl)))] sz) := by
  refine mk_mut (cc := cX2_blocksToldTwice) (maxL := 3) (ret := (some .int)) (Qf := fun A => va_Qi (fun (r : Int32) (u : Unit) => r = nI (cnt (mtB (tlE D (zzN tl) 32)) 64)) (fun u t => qa dd A [(h0, .inr (2, [.ref q1, .ref qd, .ref qt, .int (nI U)])), (q1, .inr (3, [.ref q4, .int (bI le), .int (nI wl), .int wd])), (q4, .inl (cI, 4096, .inl (aN D))), (qt, .inl (cI, 64, .inl (aN (tlE D (zzN tl) 32))))] t) A) (by decide) rfl (Nat.le_of_ble_eq_true rfl) ?_
  intro p e s m below meth c A hx hb hr hts hown hlocks hml hin hP hD hA hS hK ls hl
  have hown : s.vm.findClass RX2 = some m.cls := hown
  have hl : lv_has ls 3 [(0, .ref h0)] := hl
  have hf_15 := hts (.fieldLink RX2 15 "RecordSystem$Directory" "tellers" "[I") (by decide +kernel)
  have hin_X2 : ∀ w ∈ wsX20, w ∈ wsX2_blocksToldTwice := by decide +kernel
  refine lv_aload_n hx hb dX2_blocksToldTwice_0 rfl (lv_at hl 0 rfl) ?_
  refine cm_v (wc := [(h0, .inr (2, [.ref q1, .ref qd, .ref qt, .int (nI U)])), (q1, .inr (3, [.ref q4, .int (bI le), .int (nI wl), .int wd])), (q4, .inl (cI, 4096, .inl (aN D))), (qt, .inl (cI, 64, .inl (aN tl)))]) (wr := []) (w1 := fun u : Unit => [(h0, .inr (2, [.ref q1, .ref qd, .ref qt, .int (nI U)])), (q1, .inr (3, [.ref q4, .int (bI le), .int (nI wl), .int wd])), (q4, .inl (cI, 4096, .inl (aN D))), (qt, .inl (cI, 64, .inl (aN (tlE D (zzN tl) 32))))]) hP hD hS hA [0, 1, 2, 3] [] rfl rfl (by decide) (by decide) (va_runV (As := []) (rest := []) ⟨hx, hb, hml, hown, hts⟩ (kX2_countTellers l dd cI cZ cR cJ h0 q1 qd qt U q4 le wl wd D tl s.heap.size hDb) (cwV 0 hts gX2_blocksToldTwice_X2_countTellers rfl rfl rfl (by decide +kernel) ⟨Nat.le_of_ble_eq_true rfl, Nat.le_of_ble_eq_true rfl⟩) (pv_m hK hP hD 0 rfl (ci := 2) rfl [0, 1, 2, 3] (by decide) rfl rfl) rfl rfl hl.1 rfl (lv_room (Nat.le_of_ble_eq_true rfl)) dX2_blocksToldTwice_1 ⟨Nat.zero_le _, Nat.zero_le _⟩) (fun u9 H locs hw hP hD hS => ?_)
  have hw_2 := hw
  try dsimp only at hw_2
  have hP : va_P dd vwCl [(h0, .inr (2, [.ref q1, .ref qd, .ref qt, .int (nI U)])), (q1, .inr (3, [.ref q4, .int (bI le), .int (nI wl), .int wd])), (q4, .inl (cI, 4096, .inl (aN D))), (qt, .inl (cI, 64, .inl (aN (tlE D (zzN tl) 32))))] H := hP
  have hD : va_D A [(h0, .inr (2, [.ref q1, .ref qd, .ref qt, .int (nI U)])), (q1, .inr (3, [.ref q4, .int (bI le), .int (nI wl), .int wd])), (q4, .inl (cI, 4096, .inl (aN D))), (qt, .inl (cI, 64, .inl (aN (tlE D (zzN tl) 32))))] := hD
  refine lv_iconst (v := nI 0) hx hb dX2_blocksToldTwice_4 (by decide) ?_
  refine lv_istore_n (lv' := [(1, .int (nI 0)), (0, .ref h0)]) hx hb dX2_blocksToldTwice_5 rfl hl (by decide) rfl (fun ls hl => ?_)
  refine lv_bipush (v := nI 8) hx hb dX2_blocksToldTwice_6 (by decide) ?_
  refine lv_istore_n (lv' := [(2, .int (nI 8)), (1, .int (nI 0)), (0, .ref h0)]) hx hb dX2_blocksToldTwice_8 rfl hl (by decide) rfl (fun ls hl => ?_)
  have loop_3 : ∀ (n k : Nat), k ≤ 64 → 64 + 1 ≤ k + n → (8 ≤ k) → ∀ (H : Heap) (locs : List Loc), va_P dd vwCl [(h0, .inr (2, [.ref q1, .ref qd, .ref qt, .int (nI U)])), (q1, .inr (3, [.ref q4, .int (bI le), .int (nI wl), .int wd])), (q4, .inl (cI, 4096, .inl (aN D))), (qt, .inl (cI, 64, .inl (aN (tlE D (zzN tl) 32))))] H → va_D A [(h0, .inr (2, [.ref q1, .ref qd, .ref qt, .int (nI U)])), (q1, .inr (3, [.ref q4, .int (bI le), .int (nI wl), .int wd])), (q4, .inl (cI, 4096, .inl (aN D))), (qt, .inl (cI, 64, .inl (aN (tlE D (zzN tl) 32))))] → va_S A s.heap H locs → ∀ ls : Array Slot, lv_has ls 3 [(2, .int (nI k)), (1, .int (nI (cnt (mtB (tlE D (zzN tl) 32)) k))), (0, .ref h0)] → W p l e (({ frames := 4, cells := 0, slots := 0, locals := 87 } : Room)) s m ([.ref h0] : List Value).toArray below meth c H locs 0 0 (MQ below (va_Qi (fun (r : Int32) (u : Unit) => r = nI (cnt (mtB (tlE D (zzN tl) 32)) 64)) (fun u t => qa dd A [(h0, .inr (2, [.ref q1, .ref qd, .ref qt, .int (nI U)])), (q1, .inr (3, [.ref q4, .int (bI le), .int (nI wl), .int wd])), (q4, .inl (cI, 4096, .inl (aN D))), (qt, .inl (cI, 64, .inl (aN (tlE D (zzN tl) 32))))] t) A) ([.ref h0] : List Value).toArray s 0 0 A) (F0 m 9 ls []) := by
    intro n
    induction n with
    | zero => intro k h1 h2; exact absurd h2 (by omega)
    | succ n ih =>
      intro k hk_k hn_k h8 H locs hP hD hS ls hl
      have ih_4 := ih
      refine lv_iload_n hx hb dX2_blocksToldTwice_9 rfl (lv_at hl 0 rfl) ?_
      refine lv_bipush (v := nI 64) hx hb dX2_blocksToldTwice_10 (by decide) ?_
      refine nr_ge (tgt := 34) hx hb (by omega) (by omega) dX2_blocksToldTwice_12 (by decide) (fun c_12 => ?_) (fun c_12 => ?_)
      · have ek_k : k = 64 := by omega
        subst ek_k
        refine lv_iload_n hx hb dX2_blocksToldTwice_34 rfl (lv_at hl 1 rfl) ?_
        have hP9 := hP.sub (ws' := [(h0, .inr (2, [.ref q1, .ref qd, .ref qt, .int (nI U)])), (q1, .inr (3, [.ref q4, .int (bI le), .int (nI wl), .int wd])), (q4, .inl (cI, 4096, .inl (aN D))), (qt, .inl (cI, 64, .inl (aN (tlE D (zzN tl) 32))))]) [0, 1, 2, 3] rfl
        have hD9 := hD.sub (ws' := [(h0, .inr (2, [.ref q1, .ref qd, .ref qt, .int (nI U)])), (q1, .inr (3, [.ref q4, .int (bI le), .int (nI wl), .int wd])), (q4, .inl (cI, 4096, .inl (aN D))), (qt, .inl (cI, 64, .inl (aN (tlE D (zzN tl) 32))))]) [0, 1, 2, 3] (by decide) rfl
        exact W.iret (v := nI (cnt (mtB (tlE D (zzN tl) 32)) 64)) hx hb hr (fun t ht hW => ⟨⟨nI (cnt (mtB (tlE D (zzN tl) 32)) 64), (), rfl, rfl, by rw [ht]; exact hP9, hD9⟩, hS.F ht⟩) hS.2.2 dX2_blocksToldTwice_35
      · refine lv_aload_n hx hb dX2_blocksToldTwice_15 rfl (lv_at hl 2 rfl) ?_
        refine va_get (D := dd) (ci := 2) (v := .ref qt) (C := RX2) (T := TX2) (N := 4) hx hb hts hin_X2 hown hK.1 hP 0 rfl rfl 2 (by decide) hf_15 (fun _ h9 => h9) rfl dX2_blocksToldTwice_16 ?_
        refine lv_iload_n hx hb dX2_blocksToldTwice_19 rfl (lv_at hl 0 rfl) ?_
        refine nr_iald (f := tlE D (zzN tl) 32) hx hb hK hP 3 rfl (by omega) (by decide) dX2_blocksToldTwice_20 ?_
        have hv := tlE_le D (zzN tl) k 32
        rw [zzN_0 (by omega)] at hv
        refine lv_iconst (v := nI 1) hx hb dX2_blocksToldTwice_21 (by decide) ?_
        refine nr_le (tgt := 28) hx hb (by omega) (by omega) dX2_blocksToldTwice_22 (by decide) (fun c_22 => ?_) (fun c_22 => ?_)
        · refine lv_iinc (v := nI (k + 1)) (lv' := [(2, .int (nI (k + 1))), (1, .int (nI (cnt (mtB (tlE D (zzN tl) 32)) k))), (0, .ref h0)]) hx hb dX2_blocksToldTwice_28 hl (k := 0) rfl (nr_inc _ _ (by omega)) (by decide) rfl (fun ls hl => ?_)
          refine lv_goto (tgt := 9) hx hb dX2_blocksToldTwice_31 (by decide) ?_
          rw [show cnt (mtB (tlE D (zzN tl) 32)) k = cnt (mtB (tlE D (zzN tl) 32)) (k + 1) by simp [cnt, mtB, h8]; omega] at hl
          exact ih_4 (k + 1) (by omega) (by omega) (by omega) _ _ hP hD hS ls (lv_sub hl [0, 1, 2] rfl)
        · refine lv_iinc (v := nI (cnt (mtB (tlE D (zzN tl) 32)) k + 1)) (lv' := [(1, .int (nI (cnt (mtB (tlE D (zzN tl) 32)) k + 1))), (2, .int (nI k)), (0, .ref h0)]) hx hb dX2_blocksToldTwice_25 hl (k := 1) rfl (nr_inc _ _ (by omega)) (by decide) rfl (fun ls hl => ?_)
          refine lv_iinc (v := nI (k + 1)) (lv' := [(2, .int (nI (k + 1))), (1, .int (nI (cnt (mtB (tlE D (zzN tl) 32)) k + 1))), (0, .ref h0)]) hx hb dX2_blocksToldTwice_28 hl (k := 1) rfl (nr_inc _ _ (by omega)) (by decide) rfl (fun ls hl => ?_)
          refine lv_goto (tgt := 9) hx hb dX2_blocksToldTwice_31 (by decide) ?_
          rw [show cnt (mtB (tlE D (zzN tl) 32)) k + 1 = cnt (mtB (tlE D (zzN tl) 32)) (k + 1) by simp [cnt, mtB, h8]; omega] at hl
          exact ih_4 (k + 1) (by omega) (by omega) (by omega) _ _ hP hD hS ls (lv_sub hl [0, 1, 2] rfl)
  rw [show nI 0 = nI (cnt (mtB (tlE D (zzN tl) 32)) 8) by simp [cnt, mtB]] at hl
  exact loop_3 (64 + 1) 8 (by omega) (by omega) (by omega) _ _ hP hD hS ls (lv_sub hl [0, 1, 2] rfl)
