set_option maxHeartbeats 4000000 in
set_option maxRecDepth 100000 in
theorem kX5_makeOne (l : Launch) (dd : va_G) (cI cZ cR cJ : ClassId) (g0 : Nat) (th : Nat) (U : Nat) (le : Bool) (wl : Nat) (wd : Int32) (qD : Nat) (qT : Nat) (qN : Nat) (qO : Nat) (qS : Nat) (qC : Nat) (qP : Nat) (qG : Nat) (qB : Nat) (qF : Nat) (qX : Nat) (D : Nat → Nat) (nms : Nat → Nat → Nat) (ops : Nat → Bool) (sts : Nat → Nat) (cts : Nat → Nat) (bls : Nat → Nat → Nat) (ci : Nat) (sn : Nat) (sz : Nat) (hci : ci < 4) (hsn : sn < 16) (hDb : ∀ j, D j < 256) (hwl : wl ≤ 1000) : Met l yX5_makeOne wsX5_makeOne ({ frames := 2, cells := 0, slots := 0, locals := 42 }) (va_Pc [.ref g0, .int (nI ci), .int (nI sn)] (qm dd cI cZ cR cJ sz [(g0, .inr (5, [.int (nI th), .ref qD, .ref qT, .int (nI U), .int (pI le wl), .int wd, .ref qN, .ref qO, .ref qS, .ref qC, .ref qP, .ref qG, .ref qB, .ref qF, .ref qX])), (qD, .inl (cI, 4096, .inl (aN D))), (qN, .inl (cI, 24, .inl (aN (fN nms)))), (qO, .inl (cZ, 4, .inl (aB ops))), (qS, .inl (cI, 4, .inl (aN sts))), (qC, .inl (cI, 4, .inl (aN cts))), (qB, .inl (cI, 28, .inl (aN (fB bls))))])) (va_Qi (fun (r : Int32) (u : (Nat → Nat) × Nat × Int32 × (Nat → Bool) × (Nat → Nat) × (Nat → Nat) × (Nat → Nat → Nat)) => (∀ pl, (r, u.1, u.2.1, u.2.2.1, u.2.2.2.2.2.2 ci, u.2.2.2.2.1 ci, u.2.2.2.2.2.1 ci, if r = -2 then pl else 0) = mNew le D wl wd U (nms ci) (bls ci) (sts ci) (cts ci) pl sn) ∧ oth ci sts u.2.2.2.2.1 ∧ oth ci cts u.2.2.2.2.2.1 ∧ oth ci bls u.2.2.2.2.2.2 ∧ (r = -2 → u.2.2.2.1 = ops) ∧ (¬ r = -2 → u.2.2.2.1 = va_up ops ci true)) (fun u t => qa dd (va_A [(g0, .inr (5, [.int (nI th), .ref qD, .ref qT, .int (nI U), .int (pI le wl), .int wd, .ref qN, .ref qO, .ref qS, .ref qC, .ref qP, .ref qG, .ref qB, .ref qF, .ref qX])), (qD, .inl (cI, 4096, .inl (aN D))), (qN, .inl (cI, 24, .inl (aN (fN nms)))), (qO, .inl (cZ, 4, .inl (aB ops))), (qS, .inl (cI, 4, .inl (aN sts))), (qC, .inl (cI, 4, .inl (aN cts))), (qB, .inl (cI, 28, .inl (aN (fB bls))))] sz) [(g0, .inr (5, [.int (nI th), .ref qD, .ref qT, .int (nI U), .int (pI le u.2.1), .int u.2.2.1, .ref qN, .ref qO, .ref qS, .ref qC, .ref qP, .ref qG, .ref qB, .ref qF, .ref qX])), (qD, .inl (cI, 4096, .inl (aN u.1))), (qN, .inl (cI, 24, .inl (aN (fN nms)))), (qO, .inl (cZ, 4, .inl (aB u.2.2.2.1))), (qS, .inl (cI, 4, .inl (aN u.2.2.2.2.1))), (qC, .inl (cI, 4, .inl (aN u.2.2.2.2.2.1))), (qB, .inl (cI, 28, .inl (aN (fB u.2.2.2.2.2.2))))] t) (va_A [(g0, .inr (5, [.int (nI th), .ref qD, .ref qT, .int (nI U), .int (pI le wl), .int wd, .ref qN, .ref qO, .ref qS, .ref qC, .ref qP, .ref qG, .ref qB, .ref qF, .ref qX])), (qD, .inl (cI, 4096, .inl (aN D))), (qN, .inl (cI, 24, .inl (aN (fN nms)))), (qO, .inl (cZ, 4, .inl (aB ops))), (qS, .inl (cI, 4, .inl (aN sts))), (qC, .inl (cI, 4, .inl (aN cts))), (qB, .inl (cI, 28, .inl (aN (fB bls))))] sz)) 0 0 (va_A [(g0, .inr (5, [.int (nI th), .ref qD, .ref qT, .int (nI U), .int (pI le wl), .int wd, .ref qN, .ref qO, .ref qS, .ref qC, .ref qP, .ref qG, .ref qB, .ref qF, .ref qX])), (qD, .inl (cI, 4096, .inl (aN D))), (qN, .inl (cI, 24, .inl (aN (fN nms)))), (qO, .inl (cZ, 4, .inl (aB ops))), (qS, .inl (cI, 4, .inl (aN sts))), (qC, .inl (cI, 4, .inl (aN cts))), (qB, .inl (cI, 28, .inl (aN (fB bls))))] sz) := by
  refine mk_mut (cc := cX5_makeOne) (maxL := 5) (ret := (some .int)) (Qf := fun A => va_Qi (fun (r : Int32) (u : (Nat → Nat) × Nat × Int32 × (Nat → Bool) × (Nat → Nat) × (Nat → Nat) × (Nat → Nat → Nat)) => (∀ pl, (r, u.1, u.2.1, u.2.2.1, u.2.2.2.2.2.2 ci, u.2.2.2.2.1 ci, u.2.2.2.2.2.1 ci, if r = -2 then pl else 0) = mNew le D wl wd U (nms ci) (bls ci) (sts ci) (cts ci) pl sn) ∧ oth ci sts u.2.2.2.2.1 ∧ oth ci cts u.2.2.2.2.2.1 ∧ oth ci bls u.2.2.2.2.2.2 ∧ (r = -2 → u.2.2.2.1 = ops) ∧ (¬ r = -2 → u.2.2.2.1 = va_up ops ci true)) (fun u t => qa dd A [(g0, .inr (5, [.int (nI th), .ref qD, .ref qT, .int (nI U), .int (pI le u.2.1), .int u.2.2.1, .ref qN, .ref qO, .ref qS, .ref qC, .ref qP, .ref qG, .ref qB, .ref qF, .ref qX])), (qD, .inl (cI, 4096, .inl (aN u.1))), (qN, .inl (cI, 24, .inl (aN (fN nms)))), (qO, .inl (cZ, 4, .inl (aB u.2.2.2.1))), (qS, .inl (cI, 4, .inl (aN u.2.2.2.2.1))), (qC, .inl (cI, 4, .inl (aN u.2.2.2.2.2.1))), (qB, .inl (cI, 28, .inl (aN (fB u.2.2.2.2.2.2))))] t) A) (by decide) rfl (Nat.le_of_ble_eq_true rfl) ?_
  intro p e s m below meth c A hx hb hr hts hown hlocks hml hin hP hD hA hS hK ls hl
  have hown : s.vm.findClass RX5 = some m.cls := hown
  have hl : lv_has ls 5 [(0, .ref g0), (1, .int (nI ci)), (2, .int (nI sn))] := hl
  have hf_27 := hts (.fieldLink RX5 27 "RecordSystemModel" "stretch" "[I") (by decide +kernel)
  have hin_X5 : ∀ w ∈ wsX50, w ∈ wsX5_makeOne := by decide +kernel
  have hf_30 := hts (.fieldLink RX5 30 "RecordSystemModel" "count" "[I") (by decide +kernel)
  have hf_24 := hts (.fieldLink RX5 24 "RecordSystemModel" "open" "[Z") (by decide +kernel)
  have hf_7 := hts (.fieldLink RX5 7 "RecordSystemModel" "disk" "[I") (by decide +kernel)
  have hf_51 := hts (.fieldLink RX5 51 "RecordSystemModel" "user" "I") (by decide +kernel)
  have hf_21 := hts (.fieldLink RX5 21 "RecordSystemModel" "names" "[I") (by decide +kernel)
  have hf_39 := hts (.fieldLink RX5 39 "RecordSystemModel" "blocks" "[I") (by decide +kernel)
  refine lv_aload_n hx hb dX5_makeOne_0 rfl (lv_at hl 0 rfl) ?_
  refine cr_i (va_runV (As := []) (rest := []) ⟨hx, hb, hml, hown, hts⟩ (kX5_firstFree l dd cI cZ cR cJ g0 th U le wl wd qD qT qN qO qS qC qP qG qB qF qX D hDb) (cwV 0 hts gX5_makeOne_X5_firstFree rfl rfl rfl (by decide +kernel) ⟨Nat.le_of_ble_eq_true rfl, Nat.le_of_ble_eq_true rfl⟩) (pv_c hK hP 0 rfl (ci := 5) rfl [0, 1] rfl) rfl rfl hl.1 rfl (lv_room (Nat.le_of_ble_eq_true rfl)) dX5_makeOne_1 ⟨Nat.zero_le _, Nat.zero_le _⟩) ?_
  refine lv_topi (fun x_1 ex_1 => ?_)
  rcases fnd_cases (frB D) 32 0 with ef | ⟨j, hj0, hj1, hj2, ef⟩
  · have ex_1 := ex_1.trans ef
    subst ex_1
    refine lv_istore_n (lv' := [(3, .int (-1 : Int32)), (0, .ref g0), (1, .int (nI ci)), (2, .int (nI sn))]) hx hb dX5_makeOne_4 rfl hl (by decide) rfl (fun ls hl => ?_)
    refine lv_iload_n hx hb dX5_makeOne_5 rfl (lv_at hl 0 rfl) ?_
    refine lv_if_ge (tgt := 12) hx hb dX5_makeOne_6 (by decide) (fun c_6 => absurd c_6 (by decide)) (fun c_6 => ?_)
    refine lv_bipush (v := -2) hx hb dX5_makeOne_9 (by decide) ?_
    have hP9 := hP.sub (ws' := [(g0, .inr (5, [.int (nI th), .ref qD, .ref qT, .int (nI U), .int (pI le wl), .int wd, .ref qN, .ref qO, .ref qS, .ref qC, .ref qP, .ref qG, .ref qB, .ref qF, .ref qX])), (qD, .inl (cI, 4096, .inl (aN D))), (qN, .inl (cI, 24, .inl (aN (fN nms)))), (qO, .inl (cZ, 4, .inl (aB ops))), (qS, .inl (cI, 4, .inl (aN sts))), (qC, .inl (cI, 4, .inl (aN cts))), (qB, .inl (cI, 28, .inl (aN (fB bls))))]) [0, 1, 2, 3, 4, 5, 6] rfl
    have hD9 := hD.sub (ws' := [(g0, .inr (5, [.int (nI th), .ref qD, .ref qT, .int (nI U), .int (pI le wl), .int wd, .ref qN, .ref qO, .ref qS, .ref qC, .ref qP, .ref qG, .ref qB, .ref qF, .ref qX])), (qD, .inl (cI, 4096, .inl (aN D))), (qN, .inl (cI, 24, .inl (aN (fN nms)))), (qO, .inl (cZ, 4, .inl (aB ops))), (qS, .inl (cI, 4, .inl (aN sts))), (qC, .inl (cI, 4, .inl (aN cts))), (qB, .inl (cI, 28, .inl (aN (fB bls))))]) [0, 1, 2, 3, 4, 5, 6] (by decide) rfl
    exact W.iret (v := (-2 : Int32)) hx hb hr (fun t ht hW => ⟨⟨(-2 : Int32), (D, wl, wd, ops, sts, cts, bls), rfl, ⟨fun pl => by rw [if_pos rfl]; exact new_no ef, oth_r, oth_r, oth_r, fun _ => rfl, fun h => absurd rfl h⟩, by rw [ht]; exact hP9, hD9⟩, hS.F ht⟩) hS.2.2 dX5_makeOne_11
  · have ex_1 := ex_1.trans ef
    subst ex_1
    refine lv_istore_n (lv' := [(3, .int (nI j)), (0, .ref g0), (1, .int (nI ci)), (2, .int (nI sn))]) hx hb dX5_makeOne_4 rfl hl (by decide) rfl (fun ls hl => ?_)
    refine lv_iload_n hx hb dX5_makeOne_5 rfl (lv_at hl 0 rfl) ?_
    refine nr_if_ge (tgt := 12) hx hb (by omega) dX5_makeOne_6 (by decide) ?_
    refine lv_aload_n hx hb dX5_makeOne_12 rfl (lv_at hl 1 rfl) ?_
    refine va_get (D := dd) (ci := 5) (v := .ref qS) (C := RX5) (T := TX5) (N := 15) hx hb hts hin_X5 hown hK.1 hP 0 rfl rfl 8 (by decide) hf_27 (fun _ h9 => h9) rfl dX5_makeOne_13 ?_
    refine lv_iload_n hx hb dX5_makeOne_16 rfl (lv_at hl 2 rfl) ?_
    refine lv_iload_n hx hb dX5_makeOne_17 rfl (lv_at hl 3 rfl) ?_
    refine nr_iast (f := sts) (v := sn) hx hb hK hP hD hS 4 rfl (by omega) (by decide) dX5_makeOne_18 (fun H locs hP hD hS => ?_)
    have hP : va_P dd vwCl [(g0, .inr (5, [.int (nI th), .ref qD, .ref qT, .int (nI U), .int (pI le wl), .int wd, .ref qN, .ref qO, .ref qS, .ref qC, .ref qP, .ref qG, .ref qB, .ref qF, .ref qX])), (qD, .inl (cI, 4096, .inl (aN D))), (qN, .inl (cI, 24, .inl (aN (fN nms)))), (qO, .inl (cZ, 4, .inl (aB ops))), (qS, .inl (cI, 4, .inl (aN (va_up sts ci sn)))), (qC, .inl (cI, 4, .inl (aN cts))), (qB, .inl (cI, 28, .inl (aN (fB bls))))] H := hP
    have hD : va_D A [(g0, .inr (5, [.int (nI th), .ref qD, .ref qT, .int (nI U), .int (pI le wl), .int wd, .ref qN, .ref qO, .ref qS, .ref qC, .ref qP, .ref qG, .ref qB, .ref qF, .ref qX])), (qD, .inl (cI, 4096, .inl (aN D))), (qN, .inl (cI, 24, .inl (aN (fN nms)))), (qO, .inl (cZ, 4, .inl (aB ops))), (qS, .inl (cI, 4, .inl (aN (va_up sts ci sn)))), (qC, .inl (cI, 4, .inl (aN cts))), (qB, .inl (cI, 28, .inl (aN (fB bls))))] := hD
    refine lv_aload_n hx hb dX5_makeOne_19 rfl (lv_at hl 1 rfl) ?_
    refine va_get (D := dd) (ci := 5) (v := .ref qC) (C := RX5) (T := TX5) (N := 15) hx hb hts hin_X5 hown hK.1 hP 0 rfl rfl 9 (by decide) hf_30 (fun _ h9 => h9) rfl dX5_makeOne_20 ?_
    refine lv_iload_n hx hb dX5_makeOne_23 rfl (lv_at hl 2 rfl) ?_
    refine lv_iconst (v := nI 0) hx hb dX5_makeOne_24 (by decide) ?_
    refine nr_iast (f := cts) (v := 0) hx hb hK hP hD hS 5 rfl (by omega) (by decide) dX5_makeOne_25 (fun H locs hP hD hS => ?_)
    have hP : va_P dd vwCl [(g0, .inr (5, [.int (nI th), .ref qD, .ref qT, .int (nI U), .int (pI le wl), .int wd, .ref qN, .ref qO, .ref qS, .ref qC, .ref qP, .ref qG, .ref qB, .ref qF, .ref qX])), (qD, .inl (cI, 4096, .inl (aN D))), (qN, .inl (cI, 24, .inl (aN (fN nms)))), (qO, .inl (cZ, 4, .inl (aB ops))), (qS, .inl (cI, 4, .inl (aN (va_up sts ci sn)))), (qC, .inl (cI, 4, .inl (aN (va_up cts ci 0)))), (qB, .inl (cI, 28, .inl (aN (fB bls))))] H := hP
    have hD : va_D A [(g0, .inr (5, [.int (nI th), .ref qD, .ref qT, .int (nI U), .int (pI le wl), .int wd, .ref qN, .ref qO, .ref qS, .ref qC, .ref qP, .ref qG, .ref qB, .ref qF, .ref qX])), (qD, .inl (cI, 4096, .inl (aN D))), (qN, .inl (cI, 24, .inl (aN (fN nms)))), (qO, .inl (cZ, 4, .inl (aB ops))), (qS, .inl (cI, 4, .inl (aN (va_up sts ci sn)))), (qC, .inl (cI, 4, .inl (aN (va_up cts ci 0)))), (qB, .inl (cI, 28, .inl (aN (fB bls))))] := hD
    refine lv_iconst (v := nI 0) hx hb dX5_makeOne_26 (by decide) ?_
    refine lv_istore (lv' := [(4, .int (nI 0)), (3, .int (nI j)), (0, .ref g0), (1, .int (nI ci)), (2, .int (nI sn))]) hx hb dX5_makeOne_27 hl (by decide) rfl (fun ls hl => ?_)
    have loop_2 : ∀ (n k : Nat), k ≤ 7 → 7 + 1 ≤ k + n → ∀ (H : Heap) (locs : List Loc), va_P dd vwCl [(g0, .inr (5, [.int (nI th), .ref qD, .ref qT, .int (nI U), .int (pI le wl), .int wd, .ref qN, .ref qO, .ref qS, .ref qC, .ref qP, .ref qG, .ref qB, .ref qF, .ref qX])), (qD, .inl (cI, 4096, .inl (aN D))), (qN, .inl (cI, 24, .inl (aN (fN nms)))), (qO, .inl (cZ, 4, .inl (aB ops))), (qS, .inl (cI, 4, .inl (aN (va_up sts ci sn)))), (qC, .inl (cI, 4, .inl (aN (va_up cts ci 0)))), (qB, .inl (cI, 28, .inl (aN (fB (va_up bls ci (va_cpy (fun _ => 0) (bls ci) 0 0 k))))))] H → va_D A [(g0, .inr (5, [.int (nI th), .ref qD, .ref qT, .int (nI U), .int (pI le wl), .int wd, .ref qN, .ref qO, .ref qS, .ref qC, .ref qP, .ref qG, .ref qB, .ref qF, .ref qX])), (qD, .inl (cI, 4096, .inl (aN D))), (qN, .inl (cI, 24, .inl (aN (fN nms)))), (qO, .inl (cZ, 4, .inl (aB ops))), (qS, .inl (cI, 4, .inl (aN (va_up sts ci sn)))), (qC, .inl (cI, 4, .inl (aN (va_up cts ci 0)))), (qB, .inl (cI, 28, .inl (aN (fB (va_up bls ci (va_cpy (fun _ => 0) (bls ci) 0 0 k))))))] → va_S A s.heap H locs → ∀ ls : Array Slot, lv_has ls 5 [(4, .int (nI k)), (3, .int (nI j)), (0, .ref g0), (1, .int (nI ci)), (2, .int (nI sn))] → W p l e (({ frames := 2, cells := 0, slots := 0, locals := 42 } : Room)) s m ([.ref g0, .int (nI ci), .int (nI sn)] : List Value).toArray below meth c H locs 0 0 (MQ below (va_Qi (fun (r : Int32) (u : (Nat → Nat) × Nat × Int32 × (Nat → Bool) × (Nat → Nat) × (Nat → Nat) × (Nat → Nat → Nat)) => (∀ pl, (r, u.1, u.2.1, u.2.2.1, u.2.2.2.2.2.2 ci, u.2.2.2.2.1 ci, u.2.2.2.2.2.1 ci, if r = -2 then pl else 0) = mNew le D wl wd U (nms ci) (bls ci) (sts ci) (cts ci) pl sn) ∧ oth ci sts u.2.2.2.2.1 ∧ oth ci cts u.2.2.2.2.2.1 ∧ oth ci bls u.2.2.2.2.2.2 ∧ (r = -2 → u.2.2.2.1 = ops) ∧ (¬ r = -2 → u.2.2.2.1 = va_up ops ci true)) (fun u t => qa dd A [(g0, .inr (5, [.int (nI th), .ref qD, .ref qT, .int (nI U), .int (pI le u.2.1), .int u.2.2.1, .ref qN, .ref qO, .ref qS, .ref qC, .ref qP, .ref qG, .ref qB, .ref qF, .ref qX])), (qD, .inl (cI, 4096, .inl (aN u.1))), (qN, .inl (cI, 24, .inl (aN (fN nms)))), (qO, .inl (cZ, 4, .inl (aB u.2.2.2.1))), (qS, .inl (cI, 4, .inl (aN u.2.2.2.2.1))), (qC, .inl (cI, 4, .inl (aN u.2.2.2.2.2.1))), (qB, .inl (cI, 28, .inl (aN (fB u.2.2.2.2.2.2))))] t) A) ([.ref g0, .int (nI ci), .int (nI sn)] : List Value).toArray s 0 0 A) (F0 m 29 ls []) := by
      intro n
      induction n with
      | zero => intro k h1 h2; exact absurd h2 (by omega)
      | succ n ih =>
        intro k hk_k hn_k H locs hP hD hS ls hl
        have ih_3 := ih
        refine lv_iload hx hb dX5_makeOne_29 (lv_at hl 0 rfl) ?_
        refine lv_bipush (v := nI 7) hx hb dX5_makeOne_31 (by decide) ?_
        refine nr_ge (tgt := 55) hx hb (by omega) (by omega) dX5_makeOne_33 (by decide) (fun c_33 => ?_) (fun c_33 => ?_)
        · have ek_k : k = 7 := by omega
          subst ek_k
          refine lv_aload_n hx hb dX5_makeOne_55 rfl (lv_at hl 2 rfl) ?_
          refine va_get (D := dd) (ci := 5) (v := .ref qO) (C := RX5) (T := TX5) (N := 15) hx hb hts hin_X5 hown hK.1 hP 0 rfl rfl 7 (by decide) hf_24 (fun _ h9 => h9) rfl dX5_makeOne_56 ?_
          refine lv_iload_n hx hb dX5_makeOne_59 rfl (lv_at hl 3 rfl) ?_
          refine lv_iconst (v := nI 1) hx hb dX5_makeOne_60 (by decide) ?_
          refine nr_zast (f := ops) true (by rfl) hx hb hK hP hD hS 3 rfl (by omega) (by decide) dX5_makeOne_61 (fun H locs hP hD hS => ?_)
          have hP : va_P dd vwCl [(g0, .inr (5, [.int (nI th), .ref qD, .ref qT, .int (nI U), .int (pI le wl), .int wd, .ref qN, .ref qO, .ref qS, .ref qC, .ref qP, .ref qG, .ref qB, .ref qF, .ref qX])), (qD, .inl (cI, 4096, .inl (aN D))), (qN, .inl (cI, 24, .inl (aN (fN nms)))), (qO, .inl (cZ, 4, .inl (aB (va_up ops ci true)))), (qS, .inl (cI, 4, .inl (aN (va_up sts ci sn)))), (qC, .inl (cI, 4, .inl (aN (va_up cts ci 0)))), (qB, .inl (cI, 28, .inl (aN (fB (va_up bls ci (va_cpy (fun _ => 0) (bls ci) 0 0 7))))))] H := hP
          have hD : va_D A [(g0, .inr (5, [.int (nI th), .ref qD, .ref qT, .int (nI U), .int (pI le wl), .int wd, .ref qN, .ref qO, .ref qS, .ref qC, .ref qP, .ref qG, .ref qB, .ref qF, .ref qX])), (qD, .inl (cI, 4096, .inl (aN D))), (qN, .inl (cI, 24, .inl (aN (fN nms)))), (qO, .inl (cZ, 4, .inl (aB (va_up ops ci true)))), (qS, .inl (cI, 4, .inl (aN (va_up sts ci sn)))), (qC, .inl (cI, 4, .inl (aN (va_up cts ci 0)))), (qB, .inl (cI, 28, .inl (aN (fB (va_up bls ci (va_cpy (fun _ => 0) (bls ci) 0 0 7))))))] := hD
          refine lv_aload_n hx hb dX5_makeOne_62 rfl (lv_at hl 2 rfl) ?_
          refine cm_i (wc := [(g0, .inr (5, [.int (nI th), .ref qD, .ref qT, .int (nI U), .int (pI le wl), .int wd, .ref qN, .ref qO, .ref qS, .ref qC, .ref qP, .ref qG, .ref qB, .ref qF, .ref qX]))]) (wr := [(qD, .inl (cI, 4096, .inl (aN D))), (qN, .inl (cI, 24, .inl (aN (fN nms)))), (qO, .inl (cZ, 4, .inl (aB (va_up ops ci true)))), (qS, .inl (cI, 4, .inl (aN (va_up sts ci sn)))), (qC, .inl (cI, 4, .inl (aN (va_up cts ci 0)))), (qB, .inl (cI, 28, .inl (aN (fB (va_up bls ci (va_cpy (fun _ => 0) (bls ci) 0 0 7))))))]) (w1 := fun u : Bool => [(g0, .inr (5, [.int (nI th), .ref qD, .ref qT, .int (nI U), .int (pI le (wlW le wl)), .int (wdW le wl wd), .ref qN, .ref qO, .ref qS, .ref qC, .ref qP, .ref qG, .ref qB, .ref qF, .ref qX]))]) hP hD hS hA [0] [1, 2, 3, 4, 5, 6] rfl rfl (by decide) (by decide) (va_runV (As := []) (rest := []) ⟨hx, hb, hml, hown, hts⟩ (kX5_canWrite l dd cI cZ cR cJ g0 th U le wl wd qD qT qN qO qS qC qP qG qB qF qX H.size (by omega)) (cwV 0 hts gX5_makeOne_X5_canWrite rfl rfl rfl (by decide +kernel) ⟨Nat.le_of_ble_eq_true rfl, Nat.le_of_ble_eq_true rfl⟩) (pv_m hK hP hD 0 rfl (ci := 5) rfl [0] (by decide) rfl rfl) rfl rfl hl.1 rfl (lv_room (Nat.le_of_ble_eq_true rfl)) dX5_makeOne_63 ⟨Nat.zero_le _, Nat.zero_le _⟩) (fun r_5 u9 H locs hw hP hD hS => ?_)
          obtain ⟨b_4, rfl⟩ : ∃ z, z = u9 := ⟨_, rfl⟩
          obtain ⟨hr9, hw_6⟩ := hw
          try dsimp only at hr9 hw_6
          subst hr9
          have hP : va_P dd vwCl [(qD, .inl (cI, 4096, .inl (aN D))), (qN, .inl (cI, 24, .inl (aN (fN nms)))), (qO, .inl (cZ, 4, .inl (aB (va_up ops ci true)))), (qS, .inl (cI, 4, .inl (aN (va_up sts ci sn)))), (qC, .inl (cI, 4, .inl (aN (va_up cts ci 0)))), (qB, .inl (cI, 28, .inl (aN (fB (va_up bls ci (va_cpy (fun _ => 0) (bls ci) 0 0 7)))))), (g0, .inr (5, [.int (nI th), .ref qD, .ref qT, .int (nI U), .int (pI le (wlW le wl)), .int (wdW le wl wd), .ref qN, .ref qO, .ref qS, .ref qC, .ref qP, .ref qG, .ref qB, .ref qF, .ref qX]))] H := hP
          have hD : va_D A [(qD, .inl (cI, 4096, .inl (aN D))), (qN, .inl (cI, 24, .inl (aN (fN nms)))), (qO, .inl (cZ, 4, .inl (aB (va_up ops ci true)))), (qS, .inl (cI, 4, .inl (aN (va_up sts ci sn)))), (qC, .inl (cI, 4, .inl (aN (va_up cts ci 0)))), (qB, .inl (cI, 28, .inl (aN (fB (va_up bls ci (va_cpy (fun _ => 0) (bls ci) 0 0 7)))))), (g0, .inr (5, [.int (nI th), .ref qD, .ref qT, .int (nI U), .int (pI le (wlW le wl)), .int (wdW le wl wd), .ref qN, .ref qO, .ref qS, .ref qC, .ref qP, .ref qG, .ref qB, .ref qF, .ref qX]))] := hD
          refine br_if_ne (tgt := 72) hx hb dX5_makeOne_66 (by decide) (fun c_66 => ?_) (fun c_66 => ?_)
          · refine lv_aload_n hx hb dX5_makeOne_72 rfl (lv_at hl 2 rfl) ?_
            refine va_get (D := dd) (ci := 5) (v := .ref qD) (C := RX5) (T := TX5) (N := 15) hx hb hts hin_X5 hown hK.1 hP 6 rfl rfl 1 (by decide) hf_7 (fun _ h9 => h9) rfl dX5_makeOne_73 ?_
            refine lv_bipush (v := nI 16) hx hb dX5_makeOne_76 (by decide) ?_
            refine lv_iload_n hx hb dX5_makeOne_78 rfl (lv_at hl 1 rfl) ?_
            refine nr_imul (16 * j) (by omega) hx hb dX5_makeOne_79 ?_
            refine lv_aload_n hx hb dX5_makeOne_80 rfl (lv_at hl 2 rfl) ?_
            refine va_get (D := dd) (ci := 5) (v := .int (nI U)) (C := RX5) (T := TX5) (N := 15) hx hb hts hin_X5 hown hK.1 hP 6 rfl rfl 3 (by decide) hf_51 (fun _ h9 => h9) rfl dX5_makeOne_81 ?_
            refine nr_iast (f := D) (v := U) hx hb hK hP hD hS 0 rfl (by omega) (by decide) dX5_makeOne_84 (fun H locs hP hD hS => ?_)
            have hP : va_P dd vwCl [(qD, .inl (cI, 4096, .inl (aN (va_up D (16 * j) U)))), (qN, .inl (cI, 24, .inl (aN (fN nms)))), (qO, .inl (cZ, 4, .inl (aB (va_up ops ci true)))), (qS, .inl (cI, 4, .inl (aN (va_up sts ci sn)))), (qC, .inl (cI, 4, .inl (aN (va_up cts ci 0)))), (qB, .inl (cI, 28, .inl (aN (fB (va_up bls ci (va_cpy (fun _ => 0) (bls ci) 0 0 7)))))), (g0, .inr (5, [.int (nI th), .ref qD, .ref qT, .int (nI U), .int (pI le (wlW le wl)), .int (wdW le wl wd), .ref qN, .ref qO, .ref qS, .ref qC, .ref qP, .ref qG, .ref qB, .ref qF, .ref qX]))] H := hP
            have hD : va_D A [(qD, .inl (cI, 4096, .inl (aN (va_up D (16 * j) U)))), (qN, .inl (cI, 24, .inl (aN (fN nms)))), (qO, .inl (cZ, 4, .inl (aB (va_up ops ci true)))), (qS, .inl (cI, 4, .inl (aN (va_up sts ci sn)))), (qC, .inl (cI, 4, .inl (aN (va_up cts ci 0)))), (qB, .inl (cI, 28, .inl (aN (fB (va_up bls ci (va_cpy (fun _ => 0) (bls ci) 0 0 7)))))), (g0, .inr (5, [.int (nI th), .ref qD, .ref qT, .int (nI U), .int (pI le (wlW le wl)), .int (wdW le wl wd), .ref qN, .ref qO, .ref qS, .ref qC, .ref qP, .ref qG, .ref qB, .ref qF, .ref qX]))] := hD
            refine lv_iconst (v := nI 0) hx hb dX5_makeOne_85 (by decide) ?_
            refine lv_istore (lv' := [(4, .int (nI 0)), (3, .int (nI j)), (0, .ref g0), (1, .int (nI ci)), (2, .int (nI sn))]) hx hb dX5_makeOne_86 hl (by decide) rfl (fun ls hl => ?_)
            have loop_7 : ∀ (n i2 : Nat), i2 ≤ 6 → 6 + 1 ≤ i2 + n → ∀ (H : Heap) (locs : List Loc), va_P dd vwCl [(qD, .inl (cI, 4096, .inl (aN (va_cpy (nms ci) (va_up D (16 * j) U) 0 (16 * j + 1) i2)))), (qN, .inl (cI, 24, .inl (aN (fN nms)))), (qO, .inl (cZ, 4, .inl (aB (va_up ops ci true)))), (qS, .inl (cI, 4, .inl (aN (va_up sts ci sn)))), (qC, .inl (cI, 4, .inl (aN (va_up cts ci 0)))), (qB, .inl (cI, 28, .inl (aN (fB (va_up bls ci (va_cpy (fun _ => 0) (bls ci) 0 0 7)))))), (g0, .inr (5, [.int (nI th), .ref qD, .ref qT, .int (nI U), .int (pI le (wlW le wl)), .int (wdW le wl wd), .ref qN, .ref qO, .ref qS, .ref qC, .ref qP, .ref qG, .ref qB, .ref qF, .ref qX]))] H → va_D A [(qD, .inl (cI, 4096, .inl (aN (va_cpy (nms ci) (va_up D (16 * j) U) 0 (16 * j + 1) i2)))), (qN, .inl (cI, 24, .inl (aN (fN nms)))), (qO, .inl (cZ, 4, .inl (aB (va_up ops ci true)))), (qS, .inl (cI, 4, .inl (aN (va_up sts ci sn)))), (qC, .inl (cI, 4, .inl (aN (va_up cts ci 0)))), (qB, .inl (cI, 28, .inl (aN (fB (va_up bls ci (va_cpy (fun _ => 0) (bls ci) 0 0 7)))))), (g0, .inr (5, [.int (nI th), .ref qD, .ref qT, .int (nI U), .int (pI le (wlW le wl)), .int (wdW le wl wd), .ref qN, .ref qO, .ref qS, .ref qC, .ref qP, .ref qG, .ref qB, .ref qF, .ref qX]))] → va_S A s.heap H locs → ∀ ls : Array Slot, lv_has ls 5 [(4, .int (nI i2)), (3, .int (nI j)), (0, .ref g0), (1, .int (nI ci)), (2, .int (nI sn))] → W p l e (({ frames := 2, cells := 0, slots := 0, locals := 42 } : Room)) s m ([.ref g0, .int (nI ci), .int (nI sn)] : List Value).toArray below meth c H locs 0 0 (MQ below (va_Qi (fun (r : Int32) (u : (Nat → Nat) × Nat × Int32 × (Nat → Bool) × (Nat → Nat) × (Nat → Nat) × (Nat → Nat → Nat)) => (∀ pl, (r, u.1, u.2.1, u.2.2.1, u.2.2.2.2.2.2 ci, u.2.2.2.2.1 ci, u.2.2.2.2.2.1 ci, if r = -2 then pl else 0) = mNew le D wl wd U (nms ci) (bls ci) (sts ci) (cts ci) pl sn) ∧ oth ci sts u.2.2.2.2.1 ∧ oth ci cts u.2.2.2.2.2.1 ∧ oth ci bls u.2.2.2.2.2.2 ∧ (r = -2 → u.2.2.2.1 = ops) ∧ (¬ r = -2 → u.2.2.2.1 = va_up ops ci true)) (fun u t => qa dd A [(g0, .inr (5, [.int (nI th), .ref qD, .ref qT, .int (nI U), .int (pI le u.2.1), .int u.2.2.1, .ref qN, .ref qO, .ref qS, .ref qC, .ref qP, .ref qG, .ref qB, .ref qF, .ref qX])), (qD, .inl (cI, 4096, .inl (aN u.1))), (qN, .inl (cI, 24, .inl (aN (fN nms)))), (qO, .inl (cZ, 4, .inl (aB u.2.2.2.1))), (qS, .inl (cI, 4, .inl (aN u.2.2.2.2.1))), (qC, .inl (cI, 4, .inl (aN u.2.2.2.2.2.1))), (qB, .inl (cI, 28, .inl (aN (fB u.2.2.2.2.2.2))))] t) A) ([.ref g0, .int (nI ci), .int (nI sn)] : List Value).toArray s 0 0 A) (F0 m 88 ls []) := by
              intro n
              induction n with
              | zero => intro i2 h1 h2; exact absurd h2 (by omega)
              | succ n ih =>
                intro i2 hk_i2 hn_i2 H locs hP hD hS ls hl
                have ih_8 := ih
                refine lv_iload hx hb dX5_makeOne_88 (lv_at hl 0 rfl) ?_
                refine lv_bipush (v := nI 6) hx hb dX5_makeOne_90 (by decide) ?_
                refine nr_ge (tgt := 127) hx hb (by omega) (by omega) dX5_makeOne_92 (by decide) (fun c_92 => ?_) (fun c_92 => ?_)
                · have ek_i2 : i2 = 6 := by omega
                  subst ek_i2
                  refine lv_aload_n hx hb dX5_makeOne_127 rfl (lv_at hl 2 rfl) ?_
                  refine va_get (D := dd) (ci := 5) (v := .ref qD) (C := RX5) (T := TX5) (N := 15) hx hb hts hin_X5 hown hK.1 hP 6 rfl rfl 1 (by decide) hf_7 (fun _ h9 => h9) rfl dX5_makeOne_128 ?_
                  refine lv_bipush (v := nI 16) hx hb dX5_makeOne_131 (by decide) ?_
                  refine lv_iload_n hx hb dX5_makeOne_133 rfl (lv_at hl 1 rfl) ?_
                  refine nr_imul (16 * j) (by omega) hx hb dX5_makeOne_134 ?_
                  refine lv_bipush (v := nI 7) hx hb dX5_makeOne_135 (by decide) ?_
                  refine nr_iadd (16 * j + 7) (by omega) hx hb dX5_makeOne_137 ?_
                  refine lv_iload_n hx hb dX5_makeOne_138 rfl (lv_at hl 4 rfl) ?_
                  refine nr_iast (f := va_cpy (nms ci) (va_up D (16 * j) U) 0 (16 * j + 1) 6) (v := sn) hx hb hK hP hD hS 0 rfl (by omega) (by decide) dX5_makeOne_139 (fun H locs hP hD hS => ?_)
                  have hP : va_P dd vwCl [(qD, .inl (cI, 4096, .inl (aN (va_up (va_cpy (nms ci) (va_up D (16 * j) U) 0 (16 * j + 1) 6) (16 * j + 7) sn)))), (qN, .inl (cI, 24, .inl (aN (fN nms)))), (qO, .inl (cZ, 4, .inl (aB (va_up ops ci true)))), (qS, .inl (cI, 4, .inl (aN (va_up sts ci sn)))), (qC, .inl (cI, 4, .inl (aN (va_up cts ci 0)))), (qB, .inl (cI, 28, .inl (aN (fB (va_up bls ci (va_cpy (fun _ => 0) (bls ci) 0 0 7)))))), (g0, .inr (5, [.int (nI th), .ref qD, .ref qT, .int (nI U), .int (pI le (wlW le wl)), .int (wdW le wl wd), .ref qN, .ref qO, .ref qS, .ref qC, .ref qP, .ref qG, .ref qB, .ref qF, .ref qX]))] H := hP
                  have hD : va_D A [(qD, .inl (cI, 4096, .inl (aN (va_up (va_cpy (nms ci) (va_up D (16 * j) U) 0 (16 * j + 1) 6) (16 * j + 7) sn)))), (qN, .inl (cI, 24, .inl (aN (fN nms)))), (qO, .inl (cZ, 4, .inl (aB (va_up ops ci true)))), (qS, .inl (cI, 4, .inl (aN (va_up sts ci sn)))), (qC, .inl (cI, 4, .inl (aN (va_up cts ci 0)))), (qB, .inl (cI, 28, .inl (aN (fB (va_up bls ci (va_cpy (fun _ => 0) (bls ci) 0 0 7)))))), (g0, .inr (5, [.int (nI th), .ref qD, .ref qT, .int (nI U), .int (pI le (wlW le wl)), .int (wdW le wl wd), .ref qN, .ref qO, .ref qS, .ref qC, .ref qP, .ref qG, .ref qB, .ref qF, .ref qX]))] := hD
                  refine lv_bipush (v := nI 8) hx hb dX5_makeOne_140 (by decide) ?_
                  refine lv_istore (lv' := [(4, .int (nI 8)), (3, .int (nI j)), (0, .ref g0), (1, .int (nI ci)), (2, .int (nI sn))]) hx hb dX5_makeOne_142 hl (by decide) rfl (fun ls hl => ?_)
                  have loop_9 : ∀ (n i3 : Nat), i3 ≤ 16 → 16 + 1 ≤ i3 + n → (8 ≤ i3) → ∀ (H : Heap) (locs : List Loc), va_P dd vwCl [(qD, .inl (cI, 4096, .inl (aN (va_cpy (fun _ => 0) (va_up (va_cpy (nms ci) (va_up D (16 * j) U) 0 (16 * j + 1) 6) (16 * j + 7) sn) 0 (16 * j + 8) (i3 - 8))))), (qN, .inl (cI, 24, .inl (aN (fN nms)))), (qO, .inl (cZ, 4, .inl (aB (va_up ops ci true)))), (qS, .inl (cI, 4, .inl (aN (va_up sts ci sn)))), (qC, .inl (cI, 4, .inl (aN (va_up cts ci 0)))), (qB, .inl (cI, 28, .inl (aN (fB (va_up bls ci (va_cpy (fun _ => 0) (bls ci) 0 0 7)))))), (g0, .inr (5, [.int (nI th), .ref qD, .ref qT, .int (nI U), .int (pI le (wlW le wl)), .int (wdW le wl wd), .ref qN, .ref qO, .ref qS, .ref qC, .ref qP, .ref qG, .ref qB, .ref qF, .ref qX]))] H → va_D A [(qD, .inl (cI, 4096, .inl (aN (va_cpy (fun _ => 0) (va_up (va_cpy (nms ci) (va_up D (16 * j) U) 0 (16 * j + 1) 6) (16 * j + 7) sn) 0 (16 * j + 8) (i3 - 8))))), (qN, .inl (cI, 24, .inl (aN (fN nms)))), (qO, .inl (cZ, 4, .inl (aB (va_up ops ci true)))), (qS, .inl (cI, 4, .inl (aN (va_up sts ci sn)))), (qC, .inl (cI, 4, .inl (aN (va_up cts ci 0)))), (qB, .inl (cI, 28, .inl (aN (fB (va_up bls ci (va_cpy (fun _ => 0) (bls ci) 0 0 7)))))), (g0, .inr (5, [.int (nI th), .ref qD, .ref qT, .int (nI U), .int (pI le (wlW le wl)), .int (wdW le wl wd), .ref qN, .ref qO, .ref qS, .ref qC, .ref qP, .ref qG, .ref qB, .ref qF, .ref qX]))] → va_S A s.heap H locs → ∀ ls : Array Slot, lv_has ls 5 [(4, .int (nI i3)), (3, .int (nI j)), (0, .ref g0), (1, .int (nI ci)), (2, .int (nI sn))] → W p l e (({ frames := 2, cells := 0, slots := 0, locals := 42 } : Room)) s m ([.ref g0, .int (nI ci), .int (nI sn)] : List Value).toArray below meth c H locs 0 0 (MQ below (va_Qi (fun (r : Int32) (u : (Nat → Nat) × Nat × Int32 × (Nat → Bool) × (Nat → Nat) × (Nat → Nat) × (Nat → Nat → Nat)) => (∀ pl, (r, u.1, u.2.1, u.2.2.1, u.2.2.2.2.2.2 ci, u.2.2.2.2.1 ci, u.2.2.2.2.2.1 ci, if r = -2 then pl else 0) = mNew le D wl wd U (nms ci) (bls ci) (sts ci) (cts ci) pl sn) ∧ oth ci sts u.2.2.2.2.1 ∧ oth ci cts u.2.2.2.2.2.1 ∧ oth ci bls u.2.2.2.2.2.2 ∧ (r = -2 → u.2.2.2.1 = ops) ∧ (¬ r = -2 → u.2.2.2.1 = va_up ops ci true)) (fun u t => qa dd A [(g0, .inr (5, [.int (nI th), .ref qD, .ref qT, .int (nI U), .int (pI le u.2.1), .int u.2.2.1, .ref qN, .ref qO, .ref qS, .ref qC, .ref qP, .ref qG, .ref qB, .ref qF, .ref qX])), (qD, .inl (cI, 4096, .inl (aN u.1))), (qN, .inl (cI, 24, .inl (aN (fN nms)))), (qO, .inl (cZ, 4, .inl (aB u.2.2.2.1))), (qS, .inl (cI, 4, .inl (aN u.2.2.2.2.1))), (qC, .inl (cI, 4, .inl (aN u.2.2.2.2.2.1))), (qB, .inl (cI, 28, .inl (aN (fB u.2.2.2.2.2.2))))] t) A) ([.ref g0, .int (nI ci), .int (nI sn)] : List Value).toArray s 0 0 A) (F0 m 144 ls []) := by
                    intro n
                    induction n with
                    | zero => intro i3 h1 h2; exact absurd h2 (by omega)
                    | succ n ih =>
                      intro i3 hk_i3 hn_i3 h8 H locs hP hD hS ls hl
                      have ih_10 := ih
                      refine lv_iload hx hb dX5_makeOne_144 (lv_at hl 0 rfl) ?_
                      refine lv_bipush (v := nI 16) hx hb dX5_makeOne_146 (by decide) ?_
                      refine nr_ge (tgt := 170) hx hb (by omega) (by omega) dX5_makeOne_148 (by decide) (fun c_148 => ?_) (fun c_148 => ?_)
                      · have ek_i3 : i3 = 16 := by omega
                        subst ek_i3
                        refine lv_iload_n hx hb dX5_makeOne_170 rfl (lv_at hl 1 rfl) ?_
                        have hz : va_cpy (fun _ => 0) (va_up (va_cpy (nms ci) (va_up D (16 * j) U) 0 (16 * j + 1) 6) (16 * j + 7) sn) 0 (16 * j + 8) (16 - 8) = nwD D j U (nms ci) sn := nw_twin _ _ _ _ _
                        rw [hz] at hP hD
                        have hP9 := hP.sub (ws' := [(g0, .inr (5, [.int (nI th), .ref qD, .ref qT, .int (nI U), .int (pI le (wlW le wl)), .int (wdW le wl wd), .ref qN, .ref qO, .ref qS, .ref qC, .ref qP, .ref qG, .ref qB, .ref qF, .ref qX])), (qD, .inl (cI, 4096, .inl (aN (nwD D j U (nms ci) sn)))), (qN, .inl (cI, 24, .inl (aN (fN nms)))), (qO, .inl (cZ, 4, .inl (aB (va_up ops ci true)))), (qS, .inl (cI, 4, .inl (aN (va_up sts ci sn)))), (qC, .inl (cI, 4, .inl (aN (va_up cts ci 0)))), (qB, .inl (cI, 28, .inl (aN (fB (va_up bls ci (va_cpy (fun _ => 0) (bls ci) 0 0 7))))))]) [6, 0, 1, 2, 3, 4, 5] rfl
                        have hD9 := hD.sub (ws' := [(g0, .inr (5, [.int (nI th), .ref qD, .ref qT, .int (nI U), .int (pI le (wlW le wl)), .int (wdW le wl wd), .ref qN, .ref qO, .ref qS, .ref qC, .ref qP, .ref qG, .ref qB, .ref qF, .ref qX])), (qD, .inl (cI, 4096, .inl (aN (nwD D j U (nms ci) sn)))), (qN, .inl (cI, 24, .inl (aN (fN nms)))), (qO, .inl (cZ, 4, .inl (aB (va_up ops ci true)))), (qS, .inl (cI, 4, .inl (aN (va_up sts ci sn)))), (qC, .inl (cI, 4, .inl (aN (va_up cts ci 0)))), (qB, .inl (cI, 28, .inl (aN (fB (va_up bls ci (va_cpy (fun _ => 0) (bls ci) 0 0 7))))))]) [6, 0, 1, 2, 3, 4, 5] (by decide) rfl
                        exact W.iret (v := nI j) hx hb hr (fun t ht hW => ⟨⟨nI j, (nwD D j U (nms ci) sn, wlW le wl, wdW le wl wd, va_up ops ci true, va_up sts ci sn, va_up cts ci 0, va_up bls ci (va_cpy (fun _ => 0) (bls ci) 0 0 7)), rfl, ⟨fun pl => by simp only [va_up_self]; rw [if_neg (nI_neg1 (by omega) (by decide))]; exact tw_new_t (hw_6.symm.trans c_66) (by omega) ef, oth_u oth_r, oth_u oth_r, oth_u oth_r, fun h => absurd h (nI_neg1 (by omega) (by decide)), fun _ => rfl⟩, by rw [ht]; exact hP9, hD9⟩, hS.F ht⟩) hS.2.2 dX5_makeOne_171
                      · refine lv_aload_n hx hb dX5_makeOne_151 rfl (lv_at hl 2 rfl) ?_
                        refine va_get (D := dd) (ci := 5) (v := .ref qD) (C := RX5) (T := TX5) (N := 15) hx hb hts hin_X5 hown hK.1 hP 6 rfl rfl 1 (by decide) hf_7 (fun _ h9 => h9) rfl dX5_makeOne_152 ?_
                        refine lv_bipush (v := nI 16) hx hb dX5_makeOne_155 (by decide) ?_
                        refine lv_iload_n hx hb dX5_makeOne_157 rfl (lv_at hl 1 rfl) ?_
                        refine nr_imul (16 * j) (by omega) hx hb dX5_makeOne_158 ?_
                        refine lv_iload hx hb dX5_makeOne_159 (lv_at hl 0 rfl) ?_
                        refine nr_iadd (16 * j + i3) (by omega) hx hb dX5_makeOne_161 ?_
                        refine lv_iconst (v := nI 0) hx hb dX5_makeOne_162 (by decide) ?_
                        refine nr_iast (f := va_cpy (fun _ => 0) (va_up (va_cpy (nms ci) (va_up D (16 * j) U) 0 (16 * j + 1) 6) (16 * j + 7) sn) 0 (16 * j + 8) (i3 - 8)) (v := 0) hx hb hK hP hD hS 0 rfl (by omega) (by decide) dX5_makeOne_163 (fun H locs hP hD hS => ?_)
                        have hP : va_P dd vwCl [(qD, .inl (cI, 4096, .inl (aN (va_up (va_cpy (fun _ => 0) (va_up (va_cpy (nms ci) (va_up D (16 * j) U) 0 (16 * j + 1) 6) (16 * j + 7) sn) 0 (16 * j + 8) (i3 - 8)) (16 * j + i3) 0)))), (qN, .inl (cI, 24, .inl (aN (fN nms)))), (qO, .inl (cZ, 4, .inl (aB (va_up ops ci true)))), (qS, .inl (cI, 4, .inl (aN (va_up sts ci sn)))), (qC, .inl (cI, 4, .inl (aN (va_up cts ci 0)))), (qB, .inl (cI, 28, .inl (aN (fB (va_up bls ci (va_cpy (fun _ => 0) (bls ci) 0 0 7)))))), (g0, .inr (5, [.int (nI th), .ref qD, .ref qT, .int (nI U), .int (pI le (wlW le wl)), .int (wdW le wl wd), .ref qN, .ref qO, .ref qS, .ref qC, .ref qP, .ref qG, .ref qB, .ref qF, .ref qX]))] H := hP
                        have hD : va_D A [(qD, .inl (cI, 4096, .inl (aN (va_up (va_cpy (fun _ => 0) (va_up (va_cpy (nms ci) (va_up D (16 * j) U) 0 (16 * j + 1) 6) (16 * j + 7) sn) 0 (16 * j + 8) (i3 - 8)) (16 * j + i3) 0)))), (qN, .inl (cI, 24, .inl (aN (fN nms)))), (qO, .inl (cZ, 4, .inl (aB (va_up ops ci true)))), (qS, .inl (cI, 4, .inl (aN (va_up sts ci sn)))), (qC, .inl (cI, 4, .inl (aN (va_up cts ci 0)))), (qB, .inl (cI, 28, .inl (aN (fB (va_up bls ci (va_cpy (fun _ => 0) (bls ci) 0 0 7)))))), (g0, .inr (5, [.int (nI th), .ref qD, .ref qT, .int (nI U), .int (pI le (wlW le wl)), .int (wdW le wl wd), .ref qN, .ref qO, .ref qS, .ref qC, .ref qP, .ref qG, .ref qB, .ref qF, .ref qX]))] := hD
                        have hu_11 : va_up (va_cpy (fun _ => 0) (va_up (va_cpy (nms ci) (va_up D (16 * j) U) 0 (16 * j + 1) 6) (16 * j + 7) sn) 0 (16 * j + 8) (i3 - 8)) (16 * j + i3) 0 = va_cpy (fun _ => 0) (va_up (va_cpy (nms ci) (va_up D (16 * j) U) 0 (16 * j + 1) 6) (16 * j + 7) sn) 0 (16 * j + 8) (i3 + 1 - 8) := by rw [show i3 + 1 - 8 = (i3 - 8) + 1 by omega]; exact cpy_up (by omega) rfl
                        rw [hu_11] at hP hD
                        refine lv_iinc (v := nI (i3 + 1)) (lv' := [(4, .int (nI (i3 + 1))), (3, .int (nI j)), (0, .ref g0), (1, .int (nI ci)), (2, .int (nI sn))]) hx hb dX5_makeOne_164 hl (k := 0) rfl (nr_inc _ _ (by omega)) (by decide) rfl (fun ls hl => ?_)
                        refine lv_goto (tgt := 144) hx hb dX5_makeOne_167 (by decide) ?_
                        exact ih_10 (i3 + 1) (by omega) (by omega) (by omega) _ _ hP hD hS ls (lv_sub hl [0, 1, 2, 3, 4] rfl)
                  exact loop_9 (16 + 1) 8 (by omega) (by omega) (by omega) _ _ (by rw [cpy_0]; exact hP) (by rw [cpy_0]; exact hD) hS ls (lv_sub hl [0, 1, 2, 3, 4] rfl)
                · refine lv_aload_n hx hb dX5_makeOne_95 rfl (lv_at hl 2 rfl) ?_
                  refine va_get (D := dd) (ci := 5) (v := .ref qD) (C := RX5) (T := TX5) (N := 15) hx hb hts hin_X5 hown hK.1 hP 6 rfl rfl 1 (by decide) hf_7 (fun _ h9 => h9) rfl dX5_makeOne_96 ?_
                  refine lv_bipush (v := nI 16) hx hb dX5_makeOne_99 (by decide) ?_
                  refine lv_iload_n hx hb dX5_makeOne_101 rfl (lv_at hl 1 rfl) ?_
                  refine nr_imul (16 * j) (by omega) hx hb dX5_makeOne_102 ?_
                  refine lv_iconst (v := nI 1) hx hb dX5_makeOne_103 (by decide) ?_
                  refine nr_iadd (16 * j + 1) (by omega) hx hb dX5_makeOne_104 ?_
                  refine lv_iload hx hb dX5_makeOne_105 (lv_at hl 0 rfl) ?_
                  refine nr_iadd (16 * j + i2 + 1) (by omega) hx hb dX5_makeOne_107 ?_
                  refine lv_aload_n hx hb dX5_makeOne_108 rfl (lv_at hl 2 rfl) ?_
                  refine va_get (D := dd) (ci := 5) (v := .ref qN) (C := RX5) (T := TX5) (N := 15) hx hb hts hin_X5 hown hK.1 hP 6 rfl rfl 6 (by decide) hf_21 (fun _ h9 => h9) rfl dX5_makeOne_109 ?_
                  refine lv_bipush (v := nI 6) hx hb dX5_makeOne_112 (by decide) ?_
                  refine lv_iload_n hx hb dX5_makeOne_114 rfl (lv_at hl 3 rfl) ?_
                  refine nr_imul (6 * ci) (by omega) hx hb dX5_makeOne_115 ?_
                  refine lv_iload hx hb dX5_makeOne_116 (lv_at hl 0 rfl) ?_
                  refine nr_iadd (6 * ci + i2) (by omega) hx hb dX5_makeOne_118 ?_
                  refine nr_iald (f := fN nms) hx hb hK hP 1 rfl (by omega) (by decide) dX5_makeOne_119 ?_
                  refine nr_top (b := nms ci i2) (fN_at (by omega)) ?_
                  refine nr_iast (f := va_cpy (nms ci) (va_up D (16 * j) U) 0 (16 * j + 1) i2) (v := nms ci i2) hx hb hK hP hD hS 0 rfl (by omega) (by decide) dX5_makeOne_120 (fun H locs hP hD hS => ?_)
                  have hP : va_P dd vwCl [(qD, .inl (cI, 4096, .inl (aN (va_up (va_cpy (nms ci) (va_up D (16 * j) U) 0 (16 * j + 1) i2) (16 * j + i2 + 1) (nms ci i2))))), (qN, .inl (cI, 24, .inl (aN (fN nms)))), (qO, .inl (cZ, 4, .inl (aB (va_up ops ci true)))), (qS, .inl (cI, 4, .inl (aN (va_up sts ci sn)))), (qC, .inl (cI, 4, .inl (aN (va_up cts ci 0)))), (qB, .inl (cI, 28, .inl (aN (fB (va_up bls ci (va_cpy (fun _ => 0) (bls ci) 0 0 7)))))), (g0, .inr (5, [.int (nI th), .ref qD, .ref qT, .int (nI U), .int (pI le (wlW le wl)), .int (wdW le wl wd), .ref qN, .ref qO, .ref qS, .ref qC, .ref qP, .ref qG, .ref qB, .ref qF, .ref qX]))] H := hP
                  have hD : va_D A [(qD, .inl (cI, 4096, .inl (aN (va_up (va_cpy (nms ci) (va_up D (16 * j) U) 0 (16 * j + 1) i2) (16 * j + i2 + 1) (nms ci i2))))), (qN, .inl (cI, 24, .inl (aN (fN nms)))), (qO, .inl (cZ, 4, .inl (aB (va_up ops ci true)))), (qS, .inl (cI, 4, .inl (aN (va_up sts ci sn)))), (qC, .inl (cI, 4, .inl (aN (va_up cts ci 0)))), (qB, .inl (cI, 28, .inl (aN (fB (va_up bls ci (va_cpy (fun _ => 0) (bls ci) 0 0 7)))))), (g0, .inr (5, [.int (nI th), .ref qD, .ref qT, .int (nI U), .int (pI le (wlW le wl)), .int (wdW le wl wd), .ref qN, .ref qO, .ref qS, .ref qC, .ref qP, .ref qG, .ref qB, .ref qF, .ref qX]))] := hD
                  have hu_12 : va_up (va_cpy (nms ci) (va_up D (16 * j) U) 0 (16 * j + 1) i2) (16 * j + i2 + 1) (nms ci i2) = va_cpy (nms ci) (va_up D (16 * j) U) 0 (16 * j + 1) (i2 + 1) := cpy_up (by omega) (by rw [Nat.zero_add])
                  rw [hu_12] at hP hD
                  refine lv_iinc (v := nI (i2 + 1)) (lv' := [(4, .int (nI (i2 + 1))), (3, .int (nI j)), (0, .ref g0), (1, .int (nI ci)), (2, .int (nI sn))]) hx hb dX5_makeOne_121 hl (k := 0) rfl (nr_inc _ _ (by omega)) (by decide) rfl (fun ls hl => ?_)
                  refine lv_goto (tgt := 88) hx hb dX5_makeOne_124 (by decide) ?_
                  exact ih_8 (i2 + 1) (by omega) (by omega) _ _ hP hD hS ls (lv_sub hl [0, 1, 2, 3, 4] rfl)
            exact loop_7 (6 + 1) 0 (by omega) (by omega) _ _ (by rw [cpy_0]; exact hP) (by rw [cpy_0]; exact hD) hS ls (lv_sub hl [0, 1, 2, 3, 4] rfl)
          · refine lv_bipush (v := -9) hx hb dX5_makeOne_69 (by decide) ?_
            have hP9 := hP.sub (ws' := [(g0, .inr (5, [.int (nI th), .ref qD, .ref qT, .int (nI U), .int (pI le (wlW le wl)), .int (wdW le wl wd), .ref qN, .ref qO, .ref qS, .ref qC, .ref qP, .ref qG, .ref qB, .ref qF, .ref qX])), (qD, .inl (cI, 4096, .inl (aN D))), (qN, .inl (cI, 24, .inl (aN (fN nms)))), (qO, .inl (cZ, 4, .inl (aB (va_up ops ci true)))), (qS, .inl (cI, 4, .inl (aN (va_up sts ci sn)))), (qC, .inl (cI, 4, .inl (aN (va_up cts ci 0)))), (qB, .inl (cI, 28, .inl (aN (fB (va_up bls ci (va_cpy (fun _ => 0) (bls ci) 0 0 7))))))]) [6, 0, 1, 2, 3, 4, 5] rfl
            have hD9 := hD.sub (ws' := [(g0, .inr (5, [.int (nI th), .ref qD, .ref qT, .int (nI U), .int (pI le (wlW le wl)), .int (wdW le wl wd), .ref qN, .ref qO, .ref qS, .ref qC, .ref qP, .ref qG, .ref qB, .ref qF, .ref qX])), (qD, .inl (cI, 4096, .inl (aN D))), (qN, .inl (cI, 24, .inl (aN (fN nms)))), (qO, .inl (cZ, 4, .inl (aB (va_up ops ci true)))), (qS, .inl (cI, 4, .inl (aN (va_up sts ci sn)))), (qC, .inl (cI, 4, .inl (aN (va_up cts ci 0)))), (qB, .inl (cI, 28, .inl (aN (fB (va_up bls ci (va_cpy (fun _ => 0) (bls ci) 0 0 7))))))]) [6, 0, 1, 2, 3, 4, 5] (by decide) rfl
            exact W.iret (v := (-9 : Int32)) hx hb hr (fun t ht hW => ⟨⟨(-9 : Int32), (D, wlW le wl, wdW le wl wd, va_up ops ci true, va_up sts ci sn, va_up cts ci 0, va_up bls ci (va_cpy (fun _ => 0) (bls ci) 0 0 7)), rfl, ⟨fun pl => by simp only [va_up_self]; rw [if_neg ((by decide))]; exact tw_new_f (hw_6.symm.trans c_66) (by omega) ef, oth_u oth_r, oth_u oth_r, oth_u oth_r, fun h => absurd h ((by decide)), fun _ => rfl⟩, by rw [ht]; exact hP9, hD9⟩, hS.F ht⟩) hS.2.2 dX5_makeOne_71
        · refine lv_aload_n hx hb dX5_makeOne_36 rfl (lv_at hl 2 rfl) ?_
          refine va_get (D := dd) (ci := 5) (v := .ref qB) (C := RX5) (T := TX5) (N := 15) hx hb hts hin_X5 hown hK.1 hP 0 rfl rfl 12 (by decide) hf_39 (fun _ h9 => h9) rfl dX5_makeOne_37 ?_
          refine lv_bipush (v := nI 7) hx hb dX5_makeOne_40 (by decide) ?_
          refine lv_iload_n hx hb dX5_makeOne_42 rfl (lv_at hl 3 rfl) ?_
          refine nr_imul (7 * ci) (by omega) hx hb dX5_makeOne_43 ?_
          refine lv_iload hx hb dX5_makeOne_44 (lv_at hl 0 rfl) ?_
          refine nr_iadd (7 * ci + k) (by omega) hx hb dX5_makeOne_46 ?_
          refine lv_iconst (v := nI 0) hx hb dX5_makeOne_47 (by decide) ?_
          refine nr_iast (f := fB (va_up bls ci (va_cpy (fun _ => 0) (bls ci) 0 0 k))) (v := 0) hx hb hK hP hD hS 6 rfl (by omega) (by decide) dX5_makeOne_48 (fun H locs hP hD hS => ?_)
          have hP : va_P dd vwCl [(g0, .inr (5, [.int (nI th), .ref qD, .ref qT, .int (nI U), .int (pI le wl), .int wd, .ref qN, .ref qO, .ref qS, .ref qC, .ref qP, .ref qG, .ref qB, .ref qF, .ref qX])), (qD, .inl (cI, 4096, .inl (aN D))), (qN, .inl (cI, 24, .inl (aN (fN nms)))), (qO, .inl (cZ, 4, .inl (aB ops))), (qS, .inl (cI, 4, .inl (aN (va_up sts ci sn)))), (qC, .inl (cI, 4, .inl (aN (va_up cts ci 0)))), (qB, .inl (cI, 28, .inl (aN (va_up (fB (va_up bls ci (va_cpy (fun _ => 0) (bls ci) 0 0 k))) (7 * ci + k) 0))))] H := hP
          have hD : va_D A [(g0, .inr (5, [.int (nI th), .ref qD, .ref qT, .int (nI U), .int (pI le wl), .int wd, .ref qN, .ref qO, .ref qS, .ref qC, .ref qP, .ref qG, .ref qB, .ref qF, .ref qX])), (qD, .inl (cI, 4096, .inl (aN D))), (qN, .inl (cI, 24, .inl (aN (fN nms)))), (qO, .inl (cZ, 4, .inl (aB ops))), (qS, .inl (cI, 4, .inl (aN (va_up sts ci sn)))), (qC, .inl (cI, 4, .inl (aN (va_up cts ci 0)))), (qB, .inl (cI, 28, .inl (aN (va_up (fB (va_up bls ci (va_cpy (fun _ => 0) (bls ci) 0 0 k))) (7 * ci + k) 0))))] := hD
          have hu_13 : va_up (fB (va_up bls ci (va_cpy (fun _ => 0) (bls ci) 0 0 k))) (7 * ci + k) 0 = fB (va_up bls ci (va_cpy (fun _ => 0) (bls ci) 0 0 (k + 1))) := by rw [fB_up (k := k) (by omega) (by omega), cpy_up (by omega) rfl]
          rw [hu_13] at hP hD
          refine lv_iinc (v := nI (k + 1)) (lv' := [(4, .int (nI (k + 1))), (3, .int (nI j)), (0, .ref g0), (1, .int (nI ci)), (2, .int (nI sn))]) hx hb dX5_makeOne_49 hl (k := 0) rfl (nr_inc _ _ (by omega)) (by decide) rfl (fun ls hl => ?_)
          refine lv_goto (tgt := 29) hx hb dX5_makeOne_52 (by decide) ?_
          exact ih_3 (k + 1) (by omega) (by omega) _ _ hP hD hS ls (lv_sub hl [0, 1, 2, 3, 4] rfl)
    exact loop_2 (7 + 1) 0 (by omega) (by omega) _ _ (by rw [cpy_0, up_id]; exact hP) (by rw [cpy_0, up_id]; exact hD) hS ls (lv_sub hl [0, 1, 2, 3, 4] rfl)

set_option maxHeartbeats 4000000 in
set_option maxRecDepth 100000 in
theorem kX5_store (l : Launch) (dd : va_G) (cI cZ cR cJ : ClassId) (g0 : Nat) (th : Nat) (U : Nat) (le : Bool) (wl : Nat) (wd : Int32) (qD : Nat) (qT : Nat) (qN : Nat) (qO : Nat) (qS : Nat) (qC : Nat) (qP : Nat) (qG : Nat) (qB : Nat) (qF : Nat) (qX : Nat) (D : Nat → Nat) (nms : Nat → Nat → Nat) (sts : Nat → Nat) (cts : Nat → Nat) (bls : Nat → Nat → Nat) (ci : Nat) (sz : Nat) (hci : ci < 4) (hDb : ∀ j, D j < 256) (hwl : wl ≤ 1000) (hnb : ∀ i j, nms i j < 128) (hUb : U < 16) (hsts : ∀ j, sts j < 16) : Met l yX5_store wsX5_store ({ frames := 2, cells := 0, slots := 0, locals := 49 }) (va_Pc [.ref g0, .int (nI ci)] (qm dd cI cZ cR cJ sz [(g0, .inr (5, [.int (nI th), .ref qD, .ref qT, .int (nI U), .int (pI le wl), .int wd, .ref qN, .ref qO, .ref qS, .ref qC, .ref qP, .ref qG, .ref qB, .ref qF, .ref qX])), (qD, .inl (cI, 4096, .inl (aN D))), (qN, .inl (cI, 24, .inl (aN (fN nms)))), (qS, .inl (cI, 4, .inl (aN sts))), (qC, .inl (cI, 4, .inl (aN cts))), (qB, .inl (cI, 28, .inl (aN (fB bls))))])) (va_Qi (fun (r : Int32) (u : (Nat → Nat) × Nat × Int32) => (r, u.1, u.2.1, u.2.2) = mKeep le D wl wd U (nms ci) (bls ci) (sts ci) (cts ci)) (fun u t => qa dd (va_A [(g0, .inr (5, [.int (nI th), .ref qD, .ref qT, .int (nI U), .int (pI le wl), .int wd, .ref qN, .ref qO, .ref qS, .ref qC, .ref qP, .ref qG, .ref qB, .ref qF, .ref qX])), (qD, .inl (cI, 4096, .inl (aN D))), (qN, .inl (cI, 24, .inl (aN (fN nms)))), (qS, .inl (cI, 4, .inl (aN sts))), (qC, .inl (cI, 4, .inl (aN cts))), (qB, .inl (cI, 28, .inl (aN (fB bls))))] sz) [(g0, .inr (5, [.int (nI th), .ref qD, .ref qT, .int (nI U), .int (pI le u.2.1), .int u.2.2, .ref qN, .ref qO, .ref qS, .ref qC, .ref qP, .ref qG, .ref qB, .ref qF, .ref qX])), (qD, .inl (cI, 4096, .inl (aN u.1))), (qN, .inl (cI, 24, .inl (aN (fN nms)))), (qS, .inl (cI, 4, .inl (aN sts))), (qC, .inl (cI, 4, .inl (aN cts))), (qB, .inl (cI, 28, .inl (aN (fB bls))))] t) (va_A [(g0, .inr (5, [.int (nI th), .ref qD, .ref qT, .int (nI U), .int (pI le wl), .int wd, .ref qN, .ref qO, .ref qS, .ref qC, .ref qP, .ref qG, .ref qB, .ref qF, .ref qX])), (qD, .inl (cI, 4096, .inl (aN D))), (qN, .inl (cI, 24, .inl (aN (fN nms)))), (qS, .inl (cI, 4, .inl (aN sts))), (qC, .inl (cI, 4, .inl (aN cts))), (qB, .inl (cI, 28, .inl (aN (fB bls))))] sz)) 0 0 (va_A [(g0, .inr (5, [.int (nI th), .ref qD, .ref qT, .int (nI U), .int (pI le wl), .int wd, .ref qN, .ref qO, .ref qS, .ref qC, .ref qP, .ref qG, .ref qB, .ref qF, .ref qX])), (qD, .inl (cI, 4096, .inl (aN D))), (qN, .inl (cI, 24, .inl (aN (fN nms)))), (qS, .inl (cI, 4, .inl (aN sts))), (qC, .inl (cI, 4, .inl (aN cts))), (qB, .inl (cI, 28, .inl (aN (fB bls))))] sz) := by
  refine mk_mut (cc := cX5_store) (maxL := 4) (ret := (some .int)) (Qf := fun A => va_Qi (fun (r : Int32) (u : (Nat → Nat) × Nat × Int32) => (r, u.1, u.2.1, u.2.2) = mKeep le D wl wd U (nms ci) (bls ci) (sts ci) (cts ci)) (fun u t => qa dd A [(g0, .inr (5, [.int (nI th), .ref qD, .ref qT, .int (nI U), .int (pI le u.2.1), .int u.2.2, .ref qN, .ref qO, .ref qS, .ref qC, .ref qP, .ref qG, .ref qB, .ref qF, .ref qX])), (qD, .inl (cI, 4096, .inl (aN u.1))), (qN, .inl (cI, 24, .inl (aN (fN nms)))), (qS, .inl (cI, 4, .inl (aN sts))), (qC, .inl (cI, 4, .inl (aN cts))), (qB, .inl (cI, 28, .inl (aN (fB bls))))] t) A) (by decide) rfl (Nat.le_of_ble_eq_true rfl) ?_
  intro p e s m below meth c A hx hb hr hts hown hlocks hml hin hP hD hA hS hK ls hl
  have hown : s.vm.findClass RX5 = some m.cls := hown
  have hl : lv_has ls 4 [(0, .ref g0), (1, .int (nI ci))] := hl
  have hf_27 := hts (.fieldLink RX5 27 "RecordSystemModel" "stretch" "[I") (by decide +kernel)
  have hin_X5 : ∀ w ∈ wsX50, w ∈ wsX5_store := by decide +kernel
  have hf_7 := hts (.fieldLink RX5 7 "RecordSystemModel" "disk" "[I") (by decide +kernel)
  have hf_30 := hts (.fieldLink RX5 30 "RecordSystemModel" "count" "[I") (by decide +kernel)
  have hf_39 := hts (.fieldLink RX5 39 "RecordSystemModel" "blocks" "[I") (by decide +kernel)
  refine lv_aload_n hx hb dX5_store_0 rfl (lv_at hl 0 rfl) ?_
  refine lv_iload_n hx hb dX5_store_1 rfl (lv_at hl 1 rfl) ?_
  refine lv_iconst (v := nI 0) hx hb dX5_store_2 (by decide) ?_
  refine lv_aload_n hx hb dX5_store_3 rfl (lv_at hl 0 rfl) ?_
  refine va_get (D := dd) (ci := 5) (v := .ref qS) (C := RX5) (T := TX5) (N := 15) hx hb hts hin_X5 hown hK.1 hP 0 rfl rfl 8 (by decide) hf_27 (fun _ h9 => h9) rfl dX5_store_4 ?_
  refine lv_iload_n hx hb dX5_store_7 rfl (lv_at hl 1 rfl) ?_
  refine nr_iald (f := sts) hx hb hK hP 3 rfl (by omega) (by decide) dX5_store_8 ?_
  have hv_1 := hsts ci
  refine cr_i (va_runV (As := [.int (nI ci), .int (nI 0), .int (nI (sts ci))]) (rest := []) ⟨hx, hb, hml, hown, hts⟩ (kX5_first_of l dd cI cZ cR cJ g0 th U le wl wd qD qT qN qO qS qC qP qG qB qF qX D nms ci (sts ci) (by omega) (by omega) hDb hnb (by omega)) (cwV 3 hts gX5_store_X5_first rfl rfl rfl (by decide +kernel) ⟨Nat.le_of_ble_eq_true rfl, Nat.le_of_ble_eq_true rfl⟩) (pv_c hK hP 0 rfl (ci := 5) rfl [0, 1, 2] rfl) rfl rfl hl.1 rfl (lv_room (Nat.le_of_ble_eq_true rfl)) dX5_store_9 ⟨Nat.zero_le _, Nat.zero_le _⟩) ?_
  refine lv_topi (fun x_2 ex_2 => ?_)
  rcases fnd_cases (fsB D U (nms ci) (sts ci)) 32 0 with ef | ⟨j, hj0, hj1, hj2, ef⟩
  · have ex_2 := ex_2.trans ef
    subst ex_2
    refine lv_istore_n (lv' := [(2, .int (-1 : Int32)), (0, .ref g0), (1, .int (nI ci))]) hx hb dX5_store_12 rfl hl (by decide) rfl (fun ls hl => ?_)
    refine lv_iload_n hx hb dX5_store_13 rfl (lv_at hl 0 rfl) ?_
    refine lv_if_ge (tgt := 19) hx hb dX5_store_14 (by decide) (fun c_14 => absurd c_14 (by decide)) (fun c_14 => ?_)
    refine lv_iconst (v := -1) hx hb dX5_store_17 (by decide) ?_
    have hP9 := hP.sub (ws' := [(g0, .inr (5, [.int (nI th), .ref qD, .ref qT, .int (nI U), .int (pI le wl), .int wd, .ref qN, .ref qO, .ref qS, .ref qC, .ref qP, .ref qG, .ref qB, .ref qF, .ref qX])), (qD, .inl (cI, 4096, .inl (aN D))), (qN, .inl (cI, 24, .inl (aN (fN nms)))), (qS, .inl (cI, 4, .inl (aN sts))), (qC, .inl (cI, 4, .inl (aN cts))), (qB, .inl (cI, 28, .inl (aN (fB bls))))]) [0, 1, 2, 3, 4, 5] rfl
    have hD9 := hD.sub (ws' := [(g0, .inr (5, [.int (nI th), .ref qD, .ref qT, .int (nI U), .int (pI le wl), .int wd, .ref qN, .ref qO, .ref qS, .ref qC, .ref qP, .ref qG, .ref qB, .ref qF, .ref qX])), (qD, .inl (cI, 4096, .inl (aN D))), (qN, .inl (cI, 24, .inl (aN (fN nms)))), (qS, .inl (cI, 4, .inl (aN sts))), (qC, .inl (cI, 4, .inl (aN cts))), (qB, .inl (cI, 28, .inl (aN (fB bls))))]) [0, 1, 2, 3, 4, 5] (by decide) rfl
    exact W.iret (v := (-1 : Int32)) hx hb hr (fun t ht hW => ⟨⟨(-1 : Int32), (D, wl, wd), rfl, keep_no ef, by rw [ht]; exact hP9, hD9⟩, hS.F ht⟩) hS.2.2 dX5_store_18
  · have ex_2 := ex_2.trans ef
    subst ex_2
    refine lv_istore_n (lv' := [(2, .int (nI j)), (0, .ref g0), (1, .int (nI ci))]) hx hb dX5_store_12 rfl hl (by decide) rfl (fun ls hl => ?_)
    refine lv_iload_n hx hb dX5_store_13 rfl (lv_at hl 0 rfl) ?_
    refine nr_if_ge (tgt := 19) hx hb (by omega) dX5_store_14 (by decide) ?_
    refine lv_aload_n hx hb dX5_store_19 rfl (lv_at hl 1 rfl) ?_
    refine cm_i (wc := [(g0, .inr (5, [.int (nI th), .ref qD, .ref qT, .int (nI U), .int (pI le wl), .int wd, .ref qN, .ref qO, .ref qS, .ref qC, .ref qP, .ref qG, .ref qB, .ref qF, .ref qX]))]) (wr := [(qD, .inl (cI, 4096, .inl (aN D))), (qN, .inl (cI, 24, .inl (aN (fN nms)))), (qS, .inl (cI, 4, .inl (aN sts))), (qC, .inl (cI, 4, .inl (aN cts))), (qB, .inl (cI, 28, .inl (aN (fB bls))))]) (w1 := fun u : Bool => [(g0, .inr (5, [.int (nI th), .ref qD, .ref qT, .int (nI U), .int (pI le (wlW le wl)), .int (wdW le wl wd), .ref qN, .ref qO, .ref qS, .ref qC, .ref qP, .ref qG, .ref qB, .ref qF, .ref qX]))]) hP hD hS hA [0] [1, 2, 3, 4, 5] rfl rfl (by decide) (by decide) (va_runV (As := []) (rest := []) ⟨hx, hb, hml, hown, hts⟩ (kX5_canWrite l dd cI cZ cR cJ g0 th U le wl wd qD qT qN qO qS qC qP qG qB qF qX s.heap.size (by omega)) (cwV 0 hts gX5_store_X5_canWrite rfl rfl rfl (by decide +kernel) ⟨Nat.le_of_ble_eq_true rfl, Nat.le_of_ble_eq_true rfl⟩) (pv_m hK hP hD 0 rfl (ci := 5) rfl [0] (by decide) rfl rfl) rfl rfl hl.1 rfl (lv_room (Nat.le_of_ble_eq_true rfl)) dX5_store_20 ⟨Nat.zero_le _, Nat.zero_le _⟩) (fun r_4 u9 H locs hw hP hD hS => ?_)
    obtain ⟨b_3, rfl⟩ : ∃ z, z = u9 := ⟨_, rfl⟩
    obtain ⟨hr9, hw_5⟩ := hw
    try dsimp only at hr9 hw_5
    subst hr9
    have hP : va_P dd vwCl [(qD, .inl (cI, 4096, .inl (aN D))), (qN, .inl (cI, 24, .inl (aN (fN nms)))), (qS, .inl (cI, 4, .inl (aN sts))), (qC, .inl (cI, 4, .inl (aN cts))), (qB, .inl (cI, 28, .inl (aN (fB bls)))), (g0, .inr (5, [.int (nI th), .ref qD, .ref qT, .int (nI U), .int (pI le (wlW le wl)), .int (wdW le wl wd), .ref qN, .ref qO, .ref qS, .ref qC, .ref qP, .ref qG, .ref qB, .ref qF, .ref qX]))] H := hP
    have hD : va_D A [(qD, .inl (cI, 4096, .inl (aN D))), (qN, .inl (cI, 24, .inl (aN (fN nms)))), (qS, .inl (cI, 4, .inl (aN sts))), (qC, .inl (cI, 4, .inl (aN cts))), (qB, .inl (cI, 28, .inl (aN (fB bls)))), (g0, .inr (5, [.int (nI th), .ref qD, .ref qT, .int (nI U), .int (pI le (wlW le wl)), .int (wdW le wl wd), .ref qN, .ref qO, .ref qS, .ref qC, .ref qP, .ref qG, .ref qB, .ref qF, .ref qX]))] := hD
    refine br_if_ne (tgt := 29) hx hb dX5_store_23 (by decide) (fun c_23 => ?_) (fun c_23 => ?_)
    · refine lv_aload_n hx hb dX5_store_29 rfl (lv_at hl 1 rfl) ?_
      refine va_get (D := dd) (ci := 5) (v := .ref qD) (C := RX5) (T := TX5) (N := 15) hx hb hts hin_X5 hown hK.1 hP 5 rfl rfl 1 (by decide) hf_7 (fun _ h9 => h9) rfl dX5_store_30 ?_
      refine lv_bipush (v := nI 16) hx hb dX5_store_33 (by decide) ?_
      refine lv_iload_n hx hb dX5_store_35 rfl (lv_at hl 0 rfl) ?_
      refine nr_imul (16 * j) (by omega) hx hb dX5_store_36 ?_
      refine lv_bipush (v := nI 8) hx hb dX5_store_37 (by decide) ?_
      refine nr_iadd (16 * j + 8) (by omega) hx hb dX5_store_39 ?_
      refine lv_aload_n hx hb dX5_store_40 rfl (lv_at hl 1 rfl) ?_
      refine va_get (D := dd) (ci := 5) (v := .ref qC) (C := RX5) (T := TX5) (N := 15) hx hb hts hin_X5 hown hK.1 hP 5 rfl rfl 9 (by decide) hf_30 (fun _ h9 => h9) rfl dX5_store_41 ?_
      refine lv_iload_n hx hb dX5_store_44 rfl (lv_at hl 2 rfl) ?_
      refine nr_iald (f := cts) hx hb hK hP 3 rfl (by omega) (by decide) dX5_store_45 ?_
      refine nr_iast (f := D) (v := cts ci) hx hb hK hP hD hS 0 rfl (by omega) (by decide) dX5_store_46 (fun H locs hP hD hS => ?_)
      have hP : va_P dd vwCl [(qD, .inl (cI, 4096, .inl (aN (va_up D (16 * j + 8) (cts ci))))), (qN, .inl (cI, 24, .inl (aN (fN nms)))), (qS, .inl (cI, 4, .inl (aN sts))), (qC, .inl (cI, 4, .inl (aN cts))), (qB, .inl (cI, 28, .inl (aN (fB bls)))), (g0, .inr (5, [.int (nI th), .ref qD, .ref qT, .int (nI U), .int (pI le (wlW le wl)), .int (wdW le wl wd), .ref qN, .ref qO, .ref qS, .ref qC, .ref qP, .ref qG, .ref qB, .ref qF, .ref qX]))] H := hP
      have hD : va_D A [(qD, .inl (cI, 4096, .inl (aN (va_up D (16 * j + 8) (cts ci))))), (qN, .inl (cI, 24, .inl (aN (fN nms)))), (qS, .inl (cI, 4, .inl (aN sts))), (qC, .inl (cI, 4, .inl (aN cts))), (qB, .inl (cI, 28, .inl (aN (fB bls)))), (g0, .inr (5, [.int (nI th), .ref qD, .ref qT, .int (nI U), .int (pI le (wlW le wl)), .int (wdW le wl wd), .ref qN, .ref qO, .ref qS, .ref qC, .ref qP, .ref qG, .ref qB, .ref qF, .ref qX]))] := hD
      refine lv_iconst (v := nI 0) hx hb dX5_store_47 (by decide) ?_
      refine lv_istore_n (lv' := [(3, .int (nI 0)), (2, .int (nI j)), (0, .ref g0), (1, .int (nI ci))]) hx hb dX5_store_48 rfl hl (by decide) rfl (fun ls hl => ?_)
      have loop_6 : ∀ (n k : Nat), k ≤ 7 → 7 + 1 ≤ k + n → ∀ (H : Heap) (locs : List Loc), va_P dd vwCl [(qD, .inl (cI, 4096, .inl (aN (va_cpy (bls ci) (va_up D (16 * j + 8) (cts ci)) 0 (16 * j + 9) k)))), (qN, .inl (cI, 24, .inl (aN (fN nms)))), (qS, .inl (cI, 4, .inl (aN sts))), (qC, .inl (cI, 4, .inl (aN cts))), (qB, .inl (cI, 28, .inl (aN (fB bls)))), (g0, .inr (5, [.int (nI th), .ref qD, .ref qT, .int (nI U), .int (pI le (wlW le wl)), .int (wdW le wl wd), .ref qN, .ref qO, .ref qS, .ref qC, .ref qP, .ref qG, .ref qB, .ref qF, .ref qX]))] H → va_D A [(qD, .inl (cI, 4096, .inl (aN (va_cpy (bls ci) (va_up D (16 * j + 8) (cts ci)) 0 (16 * j + 9) k)))), (qN, .inl (cI, 24, .inl (aN (fN nms)))), (qS, .inl (cI, 4, .inl (aN sts))), (qC, .inl (cI, 4, .inl (aN cts))), (qB, .inl (cI, 28, .inl (aN (fB bls)))), (g0, .inr (5, [.int (nI th), .ref qD, .ref qT, .int (nI U), .int (pI le (wlW le wl)), .int (wdW le wl wd), .ref qN, .ref qO, .ref qS, .ref qC, .ref qP, .ref qG, .ref qB, .ref qF, .ref qX]))] → va_S A s.heap H locs → ∀ ls : Array Slot, lv_has ls 4 [(3, .int (nI k)), (2, .int (nI j)), (0, .ref g0), (1, .int (nI ci))] → W p l e (({ frames := 2, cells := 0, slots := 0, locals := 49 } : Room)) s m ([.ref g0, .int (nI ci)] : List Value).toArray below meth c H locs 0 0 (MQ below (va_Qi (fun (r : Int32) (u : (Nat → Nat) × Nat × Int32) => (r, u.1, u.2.1, u.2.2) = mKeep le D wl wd U (nms ci) (bls ci) (sts ci) (cts ci)) (fun u t => qa dd A [(g0, .inr (5, [.int (nI th), .ref qD, .ref qT, .int (nI U), .int (pI le u.2.1), .int u.2.2, .ref qN, .ref qO, .ref qS, .ref qC, .ref qP, .ref qG, .ref qB, .ref qF, .ref qX])), (qD, .inl (cI, 4096, .inl (aN u.1))), (qN, .inl (cI, 24, .inl (aN (fN nms)))), (qS, .inl (cI, 4, .inl (aN sts))), (qC, .inl (cI, 4, .inl (aN cts))), (qB, .inl (cI, 28, .inl (aN (fB bls))))] t) A) ([.ref g0, .int (nI ci)] : List Value).toArray s 0 0 A) (F0 m 49 ls []) := by
        intro n
        induction n with
        | zero => intro k h1 h2; exact absurd h2 (by omega)
        | succ n ih =>
          intro k hk_k hn_k H locs hP hD hS ls hl
          have ih_7 := ih
          refine lv_iload_n hx hb dX5_store_49 rfl (lv_at hl 0 rfl) ?_
          refine lv_bipush (v := nI 7) hx hb dX5_store_50 (by decide) ?_
          refine nr_ge (tgt := 86) hx hb (by omega) (by omega) dX5_store_52 (by decide) (fun c_52 => ?_) (fun c_52 => ?_)
          · have ek_k : k = 7 := by omega
            subst ek_k
            refine lv_iload_n hx hb dX5_store_86 rfl (lv_at hl 1 rfl) ?_
            have hz : va_cpy (bls ci) (va_up D (16 * j + 8) (cts ci)) 0 (16 * j + 9) 7 = kpD D j (bls ci) (cts ci) := kp_twin _ _ _ _
            rw [hz] at hP hD
            have hP9 := hP.sub (ws' := [(g0, .inr (5, [.int (nI th), .ref qD, .ref qT, .int (nI U), .int (pI le (wlW le wl)), .int (wdW le wl wd), .ref qN, .ref qO, .ref qS, .ref qC, .ref qP, .ref qG, .ref qB, .ref qF, .ref qX])), (qD, .inl (cI, 4096, .inl (aN (kpD D j (bls ci) (cts ci))))), (qN, .inl (cI, 24, .inl (aN (fN nms)))), (qS, .inl (cI, 4, .inl (aN sts))), (qC, .inl (cI, 4, .inl (aN cts))), (qB, .inl (cI, 28, .inl (aN (fB bls))))]) [5, 0, 1, 2, 3, 4] rfl
            have hD9 := hD.sub (ws' := [(g0, .inr (5, [.int (nI th), .ref qD, .ref qT, .int (nI U), .int (pI le (wlW le wl)), .int (wdW le wl wd), .ref qN, .ref qO, .ref qS, .ref qC, .ref qP, .ref qG, .ref qB, .ref qF, .ref qX])), (qD, .inl (cI, 4096, .inl (aN (kpD D j (bls ci) (cts ci))))), (qN, .inl (cI, 24, .inl (aN (fN nms)))), (qS, .inl (cI, 4, .inl (aN sts))), (qC, .inl (cI, 4, .inl (aN cts))), (qB, .inl (cI, 28, .inl (aN (fB bls))))]) [5, 0, 1, 2, 3, 4] (by decide) rfl
            exact W.iret (v := nI j) hx hb hr (fun t ht hW => ⟨⟨nI j, (kpD D j (bls ci) (cts ci), wlW le wl, wdW le wl wd), rfl, tw_keep_t (hw_5.symm.trans c_23) (by omega) ef, by rw [ht]; exact hP9, hD9⟩, hS.F ht⟩) hS.2.2 dX5_store_87
          · refine lv_aload_n hx hb dX5_store_55 rfl (lv_at hl 2 rfl) ?_
            refine va_get (D := dd) (ci := 5) (v := .ref qD) (C := RX5) (T := TX5) (N := 15) hx hb hts hin_X5 hown hK.1 hP 5 rfl rfl 1 (by decide) hf_7 (fun _ h9 => h9) rfl dX5_store_56 ?_
            refine lv_bipush (v := nI 16) hx hb dX5_store_59 (by decide) ?_
            refine lv_iload_n hx hb dX5_store_61 rfl (lv_at hl 1 rfl) ?_
            refine nr_imul (16 * j) (by omega) hx hb dX5_store_62 ?_
            refine lv_bipush (v := nI 9) hx hb dX5_store_63 (by decide) ?_
            refine nr_iadd (16 * j + 9) (by omega) hx hb dX5_store_65 ?_
            refine lv_iload_n hx hb dX5_store_66 rfl (lv_at hl 0 rfl) ?_
            refine nr_iadd (16 * j + k + 9) (by omega) hx hb dX5_store_67 ?_
            refine lv_aload_n hx hb dX5_store_68 rfl (lv_at hl 2 rfl) ?_
            refine va_get (D := dd) (ci := 5) (v := .ref qB) (C := RX5) (T := TX5) (N := 15) hx hb hts hin_X5 hown hK.1 hP 5 rfl rfl 12 (by decide) hf_39 (fun _ h9 => h9) rfl dX5_store_69 ?_
            refine lv_bipush (v := nI 7) hx hb dX5_store_72 (by decide) ?_
            refine lv_iload_n hx hb dX5_store_74 rfl (lv_at hl 3 rfl) ?_
            refine nr_imul (7 * ci) (by omega) hx hb dX5_store_75 ?_
            refine lv_iload_n hx hb dX5_store_76 rfl (lv_at hl 0 rfl) ?_
            refine nr_iadd (7 * ci + k) (by omega) hx hb dX5_store_77 ?_
            refine nr_iald (f := fB bls) hx hb hK hP 4 rfl (by omega) (by decide) dX5_store_78 ?_
            refine nr_top (b := bls ci k) (fB_at (by omega)) ?_
            refine nr_iast (f := va_cpy (bls ci) (va_up D (16 * j + 8) (cts ci)) 0 (16 * j + 9) k) (v := bls ci k) hx hb hK hP hD hS 0 rfl (by omega) (by decide) dX5_store_79 (fun H locs hP hD hS => ?_)
            have hP : va_P dd vwCl [(qD, .inl (cI, 4096, .inl (aN (va_up (va_cpy (bls ci) (va_up D (16 * j + 8) (cts ci)) 0 (16 * j + 9) k) (16 * j + k + 9) (bls ci k))))), (qN, .inl (cI, 24, .inl (aN (fN nms)))), (qS, .inl (cI, 4, .inl (aN sts))), (qC, .inl (cI, 4, .inl (aN cts))), (qB, .inl (cI, 28, .inl (aN (fB bls)))), (g0, .inr (5, [.int (nI th), .ref qD, .ref qT, .int (nI U), .int (pI le (wlW le wl)), .int (wdW le wl wd), .ref qN, .ref qO, .ref qS, .ref qC, .ref qP, .ref qG, .ref qB, .ref qF, .ref qX]))] H := hP
            have hD : va_D A [(qD, .inl (cI, 4096, .inl (aN (va_up (va_cpy (bls ci) (va_up D (16 * j + 8) (cts ci)) 0 (16 * j + 9) k) (16 * j + k + 9) (bls ci k))))), (qN, .inl (cI, 24, .inl (aN (fN nms)))), (qS, .inl (cI, 4, .inl (aN sts))), (qC, .inl (cI, 4, .inl (aN cts))), (qB, .inl (cI, 28, .inl (aN (fB bls)))), (g0, .inr (5, [.int (nI th), .ref qD, .ref qT, .int (nI U), .int (pI le (wlW le wl)), .int (wdW le wl wd), .ref qN, .ref qO, .ref qS, .ref qC, .ref qP, .ref qG, .ref qB, .ref qF, .ref qX]))] := hD
            have hu_8 : va_up (va_cpy (bls ci) (va_up D (16 * j + 8) (cts ci)) 0 (16 * j + 9) k) (16 * j + k + 9) (bls ci k) = va_cpy (bls ci) (va_up D (16 * j + 8) (cts ci)) 0 (16 * j + 9) (k + 1) := cpy_up (by omega) (by rw [Nat.zero_add])
            rw [hu_8] at hP hD
            refine lv_iinc (v := nI (k + 1)) (lv' := [(3, .int (nI (k + 1))), (2, .int (nI j)), (0, .ref g0), (1, .int (nI ci))]) hx hb dX5_store_80 hl (k := 0) rfl (nr_inc _ _ (by omega)) (by decide) rfl (fun ls hl => ?_)
            refine lv_goto (tgt := 49) hx hb dX5_store_83 (by decide) ?_
            exact ih_7 (k + 1) (by omega) (by omega) _ _ hP hD hS ls (lv_sub hl [0, 1, 2, 3] rfl)
      exact loop_6 (7 + 1) 0 (by omega) (by omega) _ _ (by rw [cpy_0]; exact hP) (by rw [cpy_0]; exact hD) hS ls (lv_sub hl [0, 1, 2, 3] rfl)
    · refine lv_bipush (v := -9) hx hb dX5_store_26 (by decide) ?_
      have hP9 := hP.sub (ws' := [(g0, .inr (5, [.int (nI th), .ref qD, .ref qT, .int (nI U), .int (pI le (wlW le wl)), .int (wdW le wl wd), .ref qN, .ref qO, .ref qS, .ref qC, .ref qP, .ref qG, .ref qB, .ref qF, .ref qX])), (qD, .inl (cI, 4096, .inl (aN D))), (qN, .inl (cI, 24, .inl (aN (fN nms)))), (qS, .inl (cI, 4, .inl (aN sts))), (qC, .inl (cI, 4, .inl (aN cts))), (qB, .inl (cI, 28, .inl (aN (fB bls))))]) [5, 0, 1, 2, 3, 4] rfl
      have hD9 := hD.sub (ws' := [(g0, .inr (5, [.int (nI th), .ref qD, .ref qT, .int (nI U), .int (pI le (wlW le wl)), .int (wdW le wl wd), .ref qN, .ref qO, .ref qS, .ref qC, .ref qP, .ref qG, .ref qB, .ref qF, .ref qX])), (qD, .inl (cI, 4096, .inl (aN D))), (qN, .inl (cI, 24, .inl (aN (fN nms)))), (qS, .inl (cI, 4, .inl (aN sts))), (qC, .inl (cI, 4, .inl (aN cts))), (qB, .inl (cI, 28, .inl (aN (fB bls))))]) [5, 0, 1, 2, 3, 4] (by decide) rfl
      exact W.iret (v := (-9 : Int32)) hx hb hr (fun t ht hW => ⟨⟨(-9 : Int32), (D, wlW le wl, wdW le wl wd), rfl, tw_keep_f (hw_5.symm.trans c_23) (by omega) ef, by rw [ht]; exact hP9, hD9⟩, hS.F ht⟩) hS.2.2 dX5_store_28

set_option maxHeartbeats 4000000 in
set_option maxRecDepth 100000 in
theorem kX5_many (l : Launch) (dd : va_G) (cI cZ cR cJ : ClassId) (g0 : Nat) (th : Nat) (U : Nat) (le : Bool) (wl : Nat) (wd : Int32) (qD : Nat) (qT : Nat) (qN : Nat) (qO : Nat) (qS : Nat) (qC : Nat) (qP : Nat) (qG : Nat) (qB : Nat) (qF : Nat) (qX : Nat) (D : Nat → Nat) (nms : Nat → Nat → Nat) (ci : Nat) (asks : Bool) (hci : ci < 4) (hDb : ∀ j, D j < 256) (hnb : ∀ i j, nms i j < 128) (hUb : U < 16) : Met l yX5_many wsX5_many ({ frames := 1, cells := 0, slots := 0, locals := 25 }) (va_Pc [.ref g0, .int (nI ci), .int (bI asks)] (qc dd cI cZ cR cJ [(g0, .inr (5, [.int (nI th), .ref qD, .ref qT, .int (nI U), .int (pI le wl), .int wd, .ref qN, .ref qO, .ref qS, .ref qC, .ref qP, .ref qG, .ref qB, .ref qF, .ref qX])), (qD, .inl (cI, 4096, .inl (aN D))), (qN, .inl (cI, 24, .inl (aN (fN nms))))])) (QcRead (manI (cnt (ftB D U (nms ci)) 32) asks (anyB (hrB D U (nms ci)) 32))) 0 0 (fun _ => False) := by
  refine mk_met (cc := cX5_many) (maxL := 6) (ret := (some .int)) (by decide) rfl (Nat.le_of_ble_eq_true rfl) ?_
  intro p e s m below meth c hx hb hr hts hown hlocks hml hin hv ls hl
  obtain ⟨hP, hK⟩ := hv
  have hown : s.vm.findClass RX5 = some m.cls := hown
  have hl : lv_has ls 6 [(0, .ref g0), (1, .int (nI ci)), (2, .int (bI asks))] := hl
  have hf_7 := hts (.fieldLink RX5 7 "RecordSystemModel" "disk" "[I") (by decide +kernel)
  have hin_X5 : ∀ w ∈ wsX50, w ∈ wsX5_many := by decide +kernel
  refine lv_iconst (v := nI 0) hx hb dX5_many_0 (by decide) ?_
  refine lv_istore_n (lv' := [(3, .int (nI 0)), (0, .ref g0), (1, .int (nI ci)), (2, .int (bI asks))]) hx hb dX5_many_1 rfl hl (by decide) rfl (fun ls hl => ?_)
  refine lv_iconst (v := nI 0) hx hb dX5_many_2 (by decide) ?_
  refine lv_istore (lv' := [(4, .int (nI 0)), (3, .int (nI 0)), (0, .ref g0), (1, .int (nI ci)), (2, .int (bI asks))]) hx hb dX5_many_3 hl (by decide) rfl (fun ls hl => ?_)
  refine lv_iconst (v := nI 0) hx hb dX5_many_5 (by decide) ?_
  refine lv_istore (lv' := [(5, .int (nI 0)), (4, .int (nI 0)), (3, .int (nI 0)), (0, .ref g0), (1, .int (nI ci)), (2, .int (bI asks))]) hx hb dX5_many_6 hl (by decide) rfl (fun ls hl => ?_)
  have loop_1 : ∀ (n k : Nat), k ≤ 32 → 32 + 1 ≤ k + n → ∀ ls : Array Slot, lv_has ls 6 [(5, .int (nI k)), (4, .int (bI (anyB (hrB D U (nms ci)) k))), (3, .int (nI (cnt (ftB D U (nms ci)) k))), (0, .ref g0), (1, .int (nI ci)), (2, .int (bI asks))] → W p l e (({ frames := 1, cells := 0, slots := 0, locals := 25 } : Room)) s m ([.ref g0, .int (nI ci), .int (bI asks)] : List Value).toArray below meth c s.heap [] 0 0 (MQ below (QcRead (manI (cnt (ftB D U (nms ci)) 32) asks (anyB (hrB D U (nms ci)) 32))) ([.ref g0, .int (nI ci), .int (bI asks)] : List Value).toArray s 0 0 (fun _ => False)) (F0 m 8 ls []) := by
    intro n
    induction n with
    | zero => intro k h1 h2; exact absurd h2 (by omega)
    | succ n ih =>
      intro k hk_k hn_k ls hl
      have ih_2 := ih
      have hcl := cnt_le (ftB D U (nms ci)) k
      refine lv_iload hx hb dX5_many_8 (lv_at hl 0 rfl) ?_
      refine lv_bipush (v := nI 32) hx hb dX5_many_10 (by decide) ?_
      refine nr_ge (tgt := 63) hx hb (by omega) (by omega) dX5_many_12 (by decide) (fun c_12 => ?_) (fun c_12 => ?_)
      · have ek_k : k = 32 := by omega
        subst ek_k
        refine lv_iload_n hx hb dX5_many_63 rfl (lv_at hl 2 rfl) ?_
        refine nr_if_ne (tgt := 71) hx hb (by omega) dX5_many_64 (by decide) (fun c_64 => ?_) (fun c_64 => ?_)
        · refine lv_iload_n hx hb dX5_many_71 rfl (lv_at hl 5 rfl) ?_
          refine br_if_eq (tgt := 85) hx hb dX5_many_72 (by decide) (fun c_72 => ?_) (fun c_72 => ?_)
          · refine lv_iload_n hx hb dX5_many_85 rfl (lv_at hl 2 rfl) ?_
            have hR : nI (cnt (ftB D U (nms ci)) 32) = manI (cnt (ftB D U (nms ci)) 32) asks (anyB (hrB D U (nms ci)) 32) := by simp [manI, c_64, c_72]
            exact W.iret (v := nI (cnt (ftB D U (nms ci)) 32)) hx hb hr (fun t ht hW => ⟨congrArg (fun z => Outcome.returned (some (Value.int z))) hR, ht⟩) (fun q h => nomatch h) dX5_many_86
          · refine lv_iload hx hb dX5_many_75 (lv_at hl 1 rfl) ?_
            refine br_if_eq (tgt := 85) hx hb dX5_many_77 (by decide) (fun c_77 => ?_) (fun c_77 => ?_)
            · refine lv_iload_n hx hb dX5_many_85 rfl (lv_at hl 2 rfl) ?_
              have hR : nI (cnt (ftB D U (nms ci)) 32) = manI (cnt (ftB D U (nms ci)) 32) asks (anyB (hrB D U (nms ci)) 32) := by simp [manI, c_64, c_72, c_77]
              exact W.iret (v := nI (cnt (ftB D U (nms ci)) 32)) hx hb hr (fun t ht hW => ⟨congrArg (fun z => Outcome.returned (some (Value.int z))) hR, ht⟩) (fun q h => nomatch h) dX5_many_86
            · refine lv_bipush (v := -3) hx hb dX5_many_80 (by decide) ?_
              refine lv_goto (tgt := 86) hx hb dX5_many_82 (by decide) ?_
              have hR : (-3 : Int32) = manI (cnt (ftB D U (nms ci)) 32) asks (anyB (hrB D U (nms ci)) 32) := by simp [manI, c_64, c_72, c_77]
              exact W.iret (v := (-3 : Int32)) hx hb hr (fun t ht hW => ⟨congrArg (fun z => Outcome.returned (some (Value.int z))) hR, ht⟩) (fun q h => nomatch h) dX5_many_86
        · refine lv_iconst (v := -1) hx hb dX5_many_67 (by decide) ?_
          refine lv_goto (tgt := 86) hx hb dX5_many_68 (by decide) ?_
          have hR : (-1 : Int32) = manI (cnt (ftB D U (nms ci)) 32) asks (anyB (hrB D U (nms ci)) 32) := by simp [manI, c_64]
          exact W.iret (v := (-1 : Int32)) hx hb hr (fun t ht hW => ⟨congrArg (fun z => Outcome.returned (some (Value.int z))) hR, ht⟩) (fun q h => nomatch h) dX5_many_86
      · refine lv_aload_n hx hb dX5_many_15 rfl (lv_at hl 3 rfl) ?_
        refine lv_iload_n hx hb dX5_many_16 rfl (lv_at hl 4 rfl) ?_
        refine lv_iload hx hb dX5_many_17 (lv_at hl 0 rfl) ?_
        refine cr_i (va_runV (As := [.int (nI ci), .int (nI k)]) (rest := []) ⟨hx, hb, hml, hown, hts⟩ (kX5_fits l dd cI cZ cR cJ g0 th U le wl wd qD qT qN qO qS qC qP qG qB qF qX D nms ci k (by omega) (by omega) hDb hnb (by omega)) (cwV 2 hts gX5_many_X5_fits rfl rfl rfl (by decide +kernel) ⟨Nat.le_of_ble_eq_true rfl, Nat.le_of_ble_eq_true rfl⟩) (pv_c hK hP 0 rfl (ci := 5) rfl [0, 1, 2] rfl) rfl rfl hl.1 rfl (lv_room (Nat.le_of_ble_eq_true rfl)) dX5_many_19 ⟨Nat.zero_le _, Nat.zero_le _⟩) ?_
        refine br_if_eq (tgt := 57) hx hb dX5_many_22 (by decide) (fun c_22 => ?_) (fun c_22 => ?_)
        · refine lv_iinc (v := nI (k + 1)) (lv' := [(5, .int (nI (k + 1))), (4, .int (bI (anyB (hrB D U (nms ci)) k))), (3, .int (nI (cnt (ftB D U (nms ci)) k))), (0, .ref g0), (1, .int (nI ci)), (2, .int (bI asks))]) hx hb dX5_many_57 hl (k := 0) rfl (nr_inc _ _ (by omega)) (by decide) rfl (fun ls hl => ?_)
          refine lv_goto (tgt := 8) hx hb dX5_many_60 (by decide) ?_
          rw [show cnt (ftB D U (nms ci)) k = cnt (ftB D U (nms ci)) (k + 1) by simp [cnt, c_22]] at hl
          exact ih_2 (k + 1) (by omega) (by omega) ls (by rw [← show bI (anyB (hrB D U (nms ci)) k) = bI (anyB (hrB D U (nms ci)) (k + 1)) from by simp [anyB, hrB, c_22]]; exact lv_sub hl [0, 1, 2, 3, 4, 5] rfl)
        · refine lv_iinc (v := nI (cnt (ftB D U (nms ci)) k + 1)) (lv' := [(3, .int (nI (cnt (ftB D U (nms ci)) k + 1))), (5, .int (nI k)), (4, .int (bI (anyB (hrB D U (nms ci)) k))), (0, .ref g0), (1, .int (nI ci)), (2, .int (bI asks))]) hx hb dX5_many_25 hl (k := 2) rfl (nr_inc _ _ (by omega)) (by decide) rfl (fun ls hl => ?_)
          refine lv_iload hx hb dX5_many_28 (lv_at hl 2 rfl) ?_
          refine br_if_ne (tgt := 50) hx hb dX5_many_30 (by decide) (fun c_30 => ?_) (fun c_30 => ?_)
          · refine lv_iconst (v := nI 1) hx hb dX5_many_50 (by decide) ?_
            refine lv_goto (tgt := 55) hx hb dX5_many_51 (by decide) ?_
            refine lv_istore (lv' := [(4, .int (nI 1)), (3, .int (nI (cnt (ftB D U (nms ci)) k + 1))), (5, .int (nI k)), (0, .ref g0), (1, .int (nI ci)), (2, .int (bI asks))]) hx hb dX5_many_55 hl (by decide) rfl (fun ls hl => ?_)
            refine lv_iinc (v := nI (k + 1)) (lv' := [(5, .int (nI (k + 1))), (4, .int (nI 1)), (3, .int (nI (cnt (ftB D U (nms ci)) k + 1))), (0, .ref g0), (1, .int (nI ci)), (2, .int (bI asks))]) hx hb dX5_many_57 hl (k := 2) rfl (nr_inc _ _ (by omega)) (by decide) rfl (fun ls hl => ?_)
            refine lv_goto (tgt := 8) hx hb dX5_many_60 (by decide) ?_
            rw [show cnt (ftB D U (nms ci)) k + 1 = cnt (ftB D U (nms ci)) (k + 1) by simp [cnt, c_22]] at hl
            exact ih_2 (k + 1) (by omega) (by omega) ls (by rw [← show nI 1 = bI (anyB (hrB D U (nms ci)) (k + 1)) from bI_one (by simp [anyB, hrB, roB, c_22, c_30])]; exact lv_sub hl [0, 1, 2, 3, 4, 5] rfl)
          · refine lv_aload_n hx hb dX5_many_33 rfl (lv_at hl 3 rfl) ?_
            refine va_get (D := dd) (ci := 5) (v := .ref qD) (C := RX5) (T := TX5) (N := 15) hx hb hts hin_X5 hown hK.1 hP 0 rfl rfl 1 (by decide) hf_7 (fun _ h9 => h9) rfl dX5_many_34 ?_
            refine lv_bipush (v := nI 16) hx hb dX5_many_37 (by decide) ?_
            refine lv_iload hx hb dX5_many_39 (lv_at hl 1 rfl) ?_
            refine nr_imul (16 * k) (by omega) hx hb dX5_many_41 ?_
            refine lv_iconst (v := nI 5) hx hb dX5_many_42 (by decide) ?_
            refine nr_iadd (16 * k + 5) (by omega) hx hb dX5_many_43 ?_
            refine nr_iald (f := D) hx hb hK hP 1 rfl (by omega) (by decide) dX5_many_44 ?_
            have hv_3 := hDb (16 * k + 5)
            refine lv_bipush (v := nI 127) hx hb dX5_many_45 (by decide) ?_
            refine nr_le (tgt := 54) hx hb (by omega) (by omega) dX5_many_47 (by decide) (fun c_47 => ?_) (fun c_47 => ?_)
            · refine lv_iconst (v := nI 0) hx hb dX5_many_54 (by decide) ?_
              refine lv_istore (lv' := [(4, .int (nI 0)), (3, .int (nI (cnt (ftB D U (nms ci)) k + 1))), (5, .int (nI k)), (0, .ref g0), (1, .int (nI ci)), (2, .int (bI asks))]) hx hb dX5_many_55 hl (by decide) rfl (fun ls hl => ?_)
              refine lv_iinc (v := nI (k + 1)) (lv' := [(5, .int (nI (k + 1))), (4, .int (nI 0)), (3, .int (nI (cnt (ftB D U (nms ci)) k + 1))), (0, .ref g0), (1, .int (nI ci)), (2, .int (bI asks))]) hx hb dX5_many_57 hl (k := 2) rfl (nr_inc _ _ (by omega)) (by decide) rfl (fun ls hl => ?_)
              refine lv_goto (tgt := 8) hx hb dX5_many_60 (by decide) ?_
              rw [show cnt (ftB D U (nms ci)) k + 1 = cnt (ftB D U (nms ci)) (k + 1) by simp [cnt, c_22]] at hl
              exact ih_2 (k + 1) (by omega) (by omega) ls (by rw [← show nI 0 = bI (anyB (hrB D U (nms ci)) (k + 1)) from bI_zero (by simp [anyB, hrB, roB, c_22, c_30]; omega)]; exact lv_sub hl [0, 1, 2, 3, 4, 5] rfl)
            · refine lv_iconst (v := nI 1) hx hb dX5_many_50 (by decide) ?_
              refine lv_goto (tgt := 55) hx hb dX5_many_51 (by decide) ?_
              refine lv_istore (lv' := [(4, .int (nI 1)), (3, .int (nI (cnt (ftB D U (nms ci)) k + 1))), (5, .int (nI k)), (0, .ref g0), (1, .int (nI ci)), (2, .int (bI asks))]) hx hb dX5_many_55 hl (by decide) rfl (fun ls hl => ?_)
              refine lv_iinc (v := nI (k + 1)) (lv' := [(5, .int (nI (k + 1))), (4, .int (nI 1)), (3, .int (nI (cnt (ftB D U (nms ci)) k + 1))), (0, .ref g0), (1, .int (nI ci)), (2, .int (bI asks))]) hx hb dX5_many_57 hl (k := 2) rfl (nr_inc _ _ (by omega)) (by decide) rfl (fun ls hl => ?_)
              refine lv_goto (tgt := 8) hx hb dX5_many_60 (by decide) ?_
              rw [show cnt (ftB D U (nms ci)) k + 1 = cnt (ftB D U (nms ci)) (k + 1) by simp [cnt, c_22]] at hl
              exact ih_2 (k + 1) (by omega) (by omega) ls (by rw [← show nI 1 = bI (anyB (hrB D U (nms ci)) (k + 1)) from bI_one (by simp [anyB, hrB, roB, c_22, c_30]; omega)]; exact lv_sub hl [0, 1, 2, 3, 4, 5] rfl)
  exact loop_1 (32 + 1) 0 (by omega) (by omega) ls (lv_sub hl [0, 1, 2, 3, 4, 5] rfl)
