set_option maxHeartbeats 4000000 in
set_option maxRecDepth 100000 in
theorem kX5_search (l : Launch) (dd : va_G) (cI cZ cR cJ : ClassId) (g0 : Nat) (th : Nat) (U : Nat) (le : Bool) (wl : Nat) (wd : Int32) (qD : Nat) (qT : Nat) (qN : Nat) (qO : Nat) (qS : Nat) (qC : Nat) (qP : Nat) (qG : Nat) (qB : Nat) (qF : Nat) (qX : Nat) (D : Nat → Nat) (nms : Nat → Nat → Nat) (ci : Nat) (fr : Nat) (sz : Nat) (hci : ci < 4) (hfr : fr < 32) (hDb : ∀ j, D j < 256) (hnb : ∀ i j, nms i j < 128) (hUb : U < 16) : Met l yX5_search wsX5_search ({ frames := 2, cells := 0, slots := 0, locals := 49 }) (va_Pc [.ref g0, .int (nI ci), .int (nI fr)] (qm dd cI cZ cR cJ sz [(g0, .inr (5, [.int (nI th), .ref qD, .ref qT, .int (nI U), .int (pI le wl), .int wd, .ref qN, .ref qO, .ref qS, .ref qC, .ref qP, .ref qG, .ref qB, .ref qF, .ref qX])), (qD, .inl (cI, 4096, .inl (aN D))), (qN, .inl (cI, 24, .inl (aN (fN nms))))])) (va_Qi (fun (r : Int32) (u : Unit) => r = fnd (ftB D U (nms ci)) (32 - fr) fr) (fun u t => qa dd (va_A [(g0, .inr (5, [.int (nI th), .ref qD, .ref qT, .int (nI U), .int (pI le wl), .int wd, .ref qN, .ref qO, .ref qS, .ref qC, .ref qP, .ref qG, .ref qB, .ref qF, .ref qX])), (qD, .inl (cI, 4096, .inl (aN D))), (qN, .inl (cI, 24, .inl (aN (fN nms))))] sz) [(g0, .inr (5, [.int (nI 0), .ref qD, .ref qT, .int (nI U), .int (pI le wl), .int wd, .ref qN, .ref qO, .ref qS, .ref qC, .ref qP, .ref qG, .ref qB, .ref qF, .ref qX])), (qD, .inl (cI, 4096, .inl (aN D))), (qN, .inl (cI, 24, .inl (aN (fN nms))))] t) (va_A [(g0, .inr (5, [.int (nI th), .ref qD, .ref qT, .int (nI U), .int (pI le wl), .int wd, .ref qN, .ref qO, .ref qS, .ref qC, .ref qP, .ref qG, .ref qB, .ref qF, .ref qX])), (qD, .inl (cI, 4096, .inl (aN D))), (qN, .inl (cI, 24, .inl (aN (fN nms))))] sz)) 0 0 (va_A [(g0, .inr (5, [.int (nI th), .ref qD, .ref qT, .int (nI U), .int (pI le wl), .int wd, .ref qN, .ref qO, .ref qS, .ref qC, .ref qP, .ref qG, .ref qB, .ref qF, .ref qX])), (qD, .inl (cI, 4096, .inl (aN D))), (qN, .inl (cI, 24, .inl (aN (fN nms))))] sz) := by
  refine mk_mut (cc := cX5_search) (maxL := 3) (ret := (some .int)) (Qf := fun A => va_Qi (fun (r : Int32) (u : Unit) => r = fnd (ftB D U (nms ci)) (32 - fr) fr) (fun u t => qa dd A [(g0, .inr (5, [.int (nI 0), .ref qD, .ref qT, .int (nI U), .int (pI le wl), .int wd, .ref qN, .ref qO, .ref qS, .ref qC, .ref qP, .ref qG, .ref qB, .ref qF, .ref qX])), (qD, .inl (cI, 4096, .inl (aN D))), (qN, .inl (cI, 24, .inl (aN (fN nms))))] t) A) (by decide) rfl (Nat.le_of_ble_eq_true rfl) ?_
  intro p e s m below meth c A hx hb hr hts hown hlocks hml hin hP hD hA hS hK ls hl
  have hown : s.vm.findClass RX5 = some m.cls := hown
  have hl : lv_has ls 3 [(0, .ref g0), (1, .int (nI ci)), (2, .int (nI fr))] := hl
  have hf_48 := hts (.fieldLink RX5 48 "RecordSystemModel" "thrown" "I") (by decide +kernel)
  have hin_X5 : ∀ w ∈ wsX50, w ∈ wsX5_search := by decide +kernel
  refine lv_aload_n hx hb dX5_search_0 rfl (lv_at hl 0 rfl) ?_
  refine lv_iload_n hx hb dX5_search_1 rfl (lv_at hl 1 rfl) ?_
  refine nr_if_lt (tgt := 10) hx hb (by omega) dX5_search_2 (by decide) ?_
  refine lv_iload_n hx hb dX5_search_5 rfl (lv_at hl 1 rfl) ?_
  refine lv_iconst (v := nI 3) hx hb dX5_search_6 (by decide) ?_
  refine nr_le (tgt := 14) hx hb (by omega) (by omega) dX5_search_7 (by decide) (fun c_7 => ?_) (fun c_7 => absurd c_7 (by omega))
  refine lv_iload_n hx hb dX5_search_14 rfl (lv_at hl 2 rfl) ?_
  refine nr_if_lt (tgt := 24) hx hb (by omega) dX5_search_15 (by decide) ?_
  refine lv_iload_n hx hb dX5_search_18 rfl (lv_at hl 2 rfl) ?_
  refine lv_bipush (v := nI 31) hx hb dX5_search_19 (by decide) ?_
  refine nr_le (tgt := 28) hx hb (by omega) (by omega) dX5_search_21 (by decide) (fun c_21 => ?_) (fun c_21 => absurd c_21 (by omega))
  refine lv_iconst (v := nI 0) hx hb dX5_search_28 (by decide) ?_
  refine va_put (D := dd) (ci := 5) (v := .int (nI 0)) (ty := .int) (C := RX5) (T := TX5) (N := 15) hx hb hts hin_X5 tyX5 tyX5_ok nmX5 hown hK.1 hP hD hS 0 rfl rfl 0 (by decide) hf_48 (fun _ h9 => h9) rfl (by decide +kernel) rfl rfl (Nat.le_of_ble_eq_true rfl) dX5_search_29 (fun H locs hP hD hS => ?_)
  have hP : va_P dd vwCl [(g0, .inr (5, [.int (nI 0), .ref qD, .ref qT, .int (nI U), .int (pI le wl), .int wd, .ref qN, .ref qO, .ref qS, .ref qC, .ref qP, .ref qG, .ref qB, .ref qF, .ref qX])), (qD, .inl (cI, 4096, .inl (aN D))), (qN, .inl (cI, 24, .inl (aN (fN nms))))] H := hP
  have hD : va_D A [(g0, .inr (5, [.int (nI 0), .ref qD, .ref qT, .int (nI U), .int (pI le wl), .int wd, .ref qN, .ref qO, .ref qS, .ref qC, .ref qP, .ref qG, .ref qB, .ref qF, .ref qX])), (qD, .inl (cI, 4096, .inl (aN D))), (qN, .inl (cI, 24, .inl (aN (fN nms))))] := hD
  refine lv_aload_n hx hb dX5_search_32 rfl (lv_at hl 0 rfl) ?_
  refine va_get (D := dd) (ci := 5) (v := .int (nI 0)) (C := RX5) (T := TX5) (N := 15) hx hb hts hin_X5 hown hK.1 hP 0 rfl rfl 0 (by decide) hf_48 (fun _ h9 => h9) rfl dX5_search_33 ?_
  refine nr_if_le (tgt := 43) hx hb (by omega) dX5_search_36 (by decide) (fun c_36 => ?_) (fun c_36 => absurd c_36 (by omega))
  refine lv_aload_n hx hb dX5_search_43 rfl (lv_at hl 0 rfl) ?_
  refine lv_iload_n hx hb dX5_search_44 rfl (lv_at hl 1 rfl) ?_
  refine lv_iload_n hx hb dX5_search_45 rfl (lv_at hl 2 rfl) ?_
  refine lv_iconst (v := -1) hx hb dX5_search_46 (by decide) ?_
  refine cr_i (va_runV (As := [.int (nI ci), .int (nI fr), .int (-1 : Int32)]) (rest := []) ⟨hx, hb, hml, hown, hts⟩ (kX5_first_any l dd cI cZ cR cJ g0 0 U le wl wd qD qT qN qO qS qC qP qG qB qF qX D nms ci fr (by omega) (by omega) hDb hnb (by omega)) (cwV 3 hts gX5_search_X5_first rfl rfl rfl (by decide +kernel) ⟨Nat.le_of_ble_eq_true rfl, Nat.le_of_ble_eq_true rfl⟩) (pv_c hK hP 0 rfl (ci := 5) rfl [0, 1, 2] rfl) rfl rfl hl.1 rfl (lv_room (Nat.le_of_ble_eq_true rfl)) dX5_search_47 ⟨Nat.zero_le _, Nat.zero_le _⟩) ?_
  have hP9 := hP.sub (ws' := [(g0, .inr (5, [.int (nI 0), .ref qD, .ref qT, .int (nI U), .int (pI le wl), .int wd, .ref qN, .ref qO, .ref qS, .ref qC, .ref qP, .ref qG, .ref qB, .ref qF, .ref qX])), (qD, .inl (cI, 4096, .inl (aN D))), (qN, .inl (cI, 24, .inl (aN (fN nms))))]) [0, 1, 2] rfl
  have hD9 := hD.sub (ws' := [(g0, .inr (5, [.int (nI 0), .ref qD, .ref qT, .int (nI U), .int (pI le wl), .int wd, .ref qN, .ref qO, .ref qS, .ref qC, .ref qP, .ref qG, .ref qB, .ref qF, .ref qX])), (qD, .inl (cI, 4096, .inl (aN D))), (qN, .inl (cI, 24, .inl (aN (fN nms))))]) [0, 1, 2] (by decide) rfl
  exact W.iret (v := (fnd (ftB D U (nms ci)) (32 - fr) fr)) hx hb hr (fun t ht hW => ⟨⟨(fnd (ftB D U (nms ci)) (32 - fr) fr), (), rfl, rfl, by rw [ht]; exact hP9, hD9⟩, hS.F ht⟩) hS.2.2 dX5_search_50

set_option maxHeartbeats 4000000 in
set_option maxRecDepth 100000 in
theorem kX5_size (l : Launch) (dd : va_G) (cI cZ cR cJ : ClassId) (g0 : Nat) (th : Nat) (U : Nat) (le : Bool) (wl : Nat) (wd : Int32) (qD : Nat) (qT : Nat) (qN : Nat) (qO : Nat) (qS : Nat) (qC : Nat) (qP : Nat) (qG : Nat) (qB : Nat) (qF : Nat) (qX : Nat) (D : Nat → Nat) (nms : Nat → Nat → Nat) (ci : Nat) (sz : Nat) (hci : ci < 4) (hDb : ∀ j, D j < 256) (hnb : ∀ i j, nms i j < 128) (hUb : U < 16) : Met l yX5_size wsX5_size ({ frames := 1, cells := 0, slots := 0, locals := 25 }) (va_Pc [.ref g0, .int (nI ci)] (qm dd cI cZ cR cJ sz [(g0, .inr (5, [.int (nI th), .ref qD, .ref qT, .int (nI U), .int (pI le wl), .int wd, .ref qN, .ref qO, .ref qS, .ref qC, .ref qP, .ref qG, .ref qB, .ref qF, .ref qX])), (qD, .inl (cI, 4096, .inl (aN D))), (qN, .inl (cI, 24, .inl (aN (fN nms))))])) (va_Qi (fun (r : Int32) (u : Unit) => r = nI (gre (ftB D U (nms ci)) (enN D) 32)) (fun u t => qa dd (va_A [(g0, .inr (5, [.int (nI th), .ref qD, .ref qT, .int (nI U), .int (pI le wl), .int wd, .ref qN, .ref qO, .ref qS, .ref qC, .ref qP, .ref qG, .ref qB, .ref qF, .ref qX])), (qD, .inl (cI, 4096, .inl (aN D))), (qN, .inl (cI, 24, .inl (aN (fN nms))))] sz) [(g0, .inr (5, [.int (nI 0), .ref qD, .ref qT, .int (nI U), .int (pI le wl), .int wd, .ref qN, .ref qO, .ref qS, .ref qC, .ref qP, .ref qG, .ref qB, .ref qF, .ref qX])), (qD, .inl (cI, 4096, .inl (aN D))), (qN, .inl (cI, 24, .inl (aN (fN nms))))] t) (va_A [(g0, .inr (5, [.int (nI th), .ref qD, .ref qT, .int (nI U), .int (pI le wl), .int wd, .ref qN, .ref qO, .ref qS, .ref qC, .ref qP, .ref qG, .ref qB, .ref qF, .ref qX])), (qD, .inl (cI, 4096, .inl (aN D))), (qN, .inl (cI, 24, .inl (aN (fN nms))))] sz)) 0 0 (va_A [(g0, .inr (5, [.int (nI th), .ref qD, .ref qT, .int (nI U), .int (pI le wl), .int wd, .ref qN, .ref qO, .ref qS, .ref qC, .ref qP, .ref qG, .ref qB, .ref qF, .ref qX])), (qD, .inl (cI, 4096, .inl (aN D))), (qN, .inl (cI, 24, .inl (aN (fN nms))))] sz) := by
  refine mk_mut (cc := cX5_size) (maxL := 5) (ret := (some .int)) (Qf := fun A => va_Qi (fun (r : Int32) (u : Unit) => r = nI (gre (ftB D U (nms ci)) (enN D) 32)) (fun u t => qa dd A [(g0, .inr (5, [.int (nI 0), .ref qD, .ref qT, .int (nI U), .int (pI le wl), .int wd, .ref qN, .ref qO, .ref qS, .ref qC, .ref qP, .ref qG, .ref qB, .ref qF, .ref qX])), (qD, .inl (cI, 4096, .inl (aN D))), (qN, .inl (cI, 24, .inl (aN (fN nms))))] t) A) (by decide) rfl (Nat.le_of_ble_eq_true rfl) ?_
  intro p e s m below meth c A hx hb hr hts hown hlocks hml hin hP hD hA hS hK ls hl
  have hown : s.vm.findClass RX5 = some m.cls := hown
  have hl : lv_has ls 5 [(0, .ref g0), (1, .int (nI ci))] := hl
  have hf_7 := hts (.fieldLink RX5 7 "RecordSystemModel" "disk" "[I") (by decide +kernel)
  have hin_X5 : ∀ w ∈ wsX50, w ∈ wsX5_size := by decide +kernel
  refine lv_aload_n hx hb dX5_size_0 rfl (lv_at hl 0 rfl) ?_
  refine lv_iload_n hx hb dX5_size_1 rfl (lv_at hl 1 rfl) ?_
  refine cm_i (wc := [(g0, .inr (5, [.int (nI th), .ref qD, .ref qT, .int (nI U), .int (pI le wl), .int wd, .ref qN, .ref qO, .ref qS, .ref qC, .ref qP, .ref qG, .ref qB, .ref qF, .ref qX]))]) (wr := [(qD, .inl (cI, 4096, .inl (aN D))), (qN, .inl (cI, 24, .inl (aN (fN nms))))]) (w1 := fun u : Bool => [(g0, .inr (5, [.int (nI 0), .ref qD, .ref qT, .int (nI U), .int (pI le wl), .int wd, .ref qN, .ref qO, .ref qS, .ref qC, .ref qP, .ref qG, .ref qB, .ref qF, .ref qX]))]) hP hD hS hA [0] [1, 2] rfl rfl (by decide) (by decide) (va_runV (As := [.int (nI ci)]) (rest := []) ⟨hx, hb, hml, hown, hts⟩ (kX5_noControl_ok l dd cI cZ cR cJ g0 th U le wl wd qD qT qN qO qS qC qP qG qB qF qX ci s.heap.size (by omega)) (cwV 1 hts gX5_size_X5_noControl rfl rfl rfl (by decide +kernel) ⟨Nat.le_of_ble_eq_true rfl, Nat.le_of_ble_eq_true rfl⟩) (pv_m hK hP hD 0 rfl (ci := 5) rfl [0] (by decide) rfl rfl) rfl rfl hl.1 rfl (lv_room (Nat.le_of_ble_eq_true rfl)) dX5_size_2 ⟨Nat.zero_le _, Nat.zero_le _⟩) (fun r_2 u9 H locs hw hP hD hS => ?_)
  obtain ⟨b_1, rfl⟩ : ∃ z, z = u9 := ⟨_, rfl⟩
  obtain ⟨hr9, hw_3⟩ := hw
  try dsimp only at hr9 hw_3
  subst hr9
  have hP : va_P dd vwCl [(qD, .inl (cI, 4096, .inl (aN D))), (qN, .inl (cI, 24, .inl (aN (fN nms)))), (g0, .inr (5, [.int (nI 0), .ref qD, .ref qT, .int (nI U), .int (pI le wl), .int wd, .ref qN, .ref qO, .ref qS, .ref qC, .ref qP, .ref qG, .ref qB, .ref qF, .ref qX]))] H := hP
  have hD : va_D A [(qD, .inl (cI, 4096, .inl (aN D))), (qN, .inl (cI, 24, .inl (aN (fN nms)))), (g0, .inr (5, [.int (nI 0), .ref qD, .ref qT, .int (nI U), .int (pI le wl), .int wd, .ref qN, .ref qO, .ref qS, .ref qC, .ref qP, .ref qG, .ref qB, .ref qF, .ref qX]))] := hD
  subst hw_3
  refine br_if_eq (tgt := 10) hx hb dX5_size_5 (by decide) (fun c_5 => ?_) (fun c_5 => absurd c_5 (by decide))
  refine lv_iconst (v := nI 0) hx hb dX5_size_10 (by decide) ?_
  refine lv_istore_n (lv' := [(2, .int (nI 0)), (0, .ref g0), (1, .int (nI ci))]) hx hb dX5_size_11 rfl hl (by decide) rfl (fun ls hl => ?_)
  refine lv_iconst (v := nI 0) hx hb dX5_size_12 (by decide) ?_
  refine lv_istore_n (lv' := [(3, .int (nI 0)), (2, .int (nI 0)), (0, .ref g0), (1, .int (nI ci))]) hx hb dX5_size_13 rfl hl (by decide) rfl (fun ls hl => ?_)
  have loop_4 : ∀ (n k : Nat), k ≤ 32 → 32 + 1 ≤ k + n → ∀ (H : Heap) (locs : List Loc), va_P dd vwCl [(qD, .inl (cI, 4096, .inl (aN D))), (qN, .inl (cI, 24, .inl (aN (fN nms)))), (g0, .inr (5, [.int (nI 0), .ref qD, .ref qT, .int (nI U), .int (pI le wl), .int wd, .ref qN, .ref qO, .ref qS, .ref qC, .ref qP, .ref qG, .ref qB, .ref qF, .ref qX]))] H → va_D A [(qD, .inl (cI, 4096, .inl (aN D))), (qN, .inl (cI, 24, .inl (aN (fN nms)))), (g0, .inr (5, [.int (nI 0), .ref qD, .ref qT, .int (nI U), .int (pI le wl), .int wd, .ref qN, .ref qO, .ref qS, .ref qC, .ref qP, .ref qG, .ref qB, .ref qF, .ref qX]))] → va_S A s.heap H locs → ∀ ls : Array Slot, lv_has ls 5 [(3, .int (nI k)), (2, .int (nI (gre (ftB D U (nms ci)) (enN D) k))), (0, .ref g0), (1, .int (nI ci))] → W p l e (({ frames := 1, cells := 0, slots := 0, locals := 25 } : Room)) s m ([.ref g0, .int (nI ci)] : List Value).toArray below meth c H locs 0 0 (MQ below (va_Qi (fun (r : Int32) (u : Unit) => r = nI (gre (ftB D U (nms ci)) (enN D) 32)) (fun u t => qa dd A [(g0, .inr (5, [.int (nI 0), .ref qD, .ref qT, .int (nI U), .int (pI le wl), .int wd, .ref qN, .ref qO, .ref qS, .ref qC, .ref qP, .ref qG, .ref qB, .ref qF, .ref qX])), (qD, .inl (cI, 4096, .inl (aN D))), (qN, .inl (cI, 24, .inl (aN (fN nms))))] t) A) ([.ref g0, .int (nI ci)] : List Value).toArray s 0 0 A) (F0 m 14 ls []) := by
    intro n
    induction n with
    | zero => intro k h1 h2; exact absurd h2 (by omega)
    | succ n ih =>
      intro k hk_k hn_k H locs hP hD hS ls hl
      have ih_5 := ih
      have hg := gre_le (ftB D U (nms ci)) (enN D) 10000 (fun j => by have h1 := hDb (16 * j + 7); have h2 := hDb (16 * j + 8); simp only [enN]; omega) k
      refine lv_iload_n hx hb dX5_size_14 rfl (lv_at hl 0 rfl) ?_
      refine lv_bipush (v := nI 32) hx hb dX5_size_15 (by decide) ?_
      refine nr_ge (tgt := 78) hx hb (by omega) (by omega) dX5_size_17 (by decide) (fun c_17 => ?_) (fun c_17 => ?_)
      · have ek_k : k = 32 := by omega
        subst ek_k
        refine lv_iload_n hx hb dX5_size_78 rfl (lv_at hl 1 rfl) ?_
        have hP9 := hP.sub (ws' := [(g0, .inr (5, [.int (nI 0), .ref qD, .ref qT, .int (nI U), .int (pI le wl), .int wd, .ref qN, .ref qO, .ref qS, .ref qC, .ref qP, .ref qG, .ref qB, .ref qF, .ref qX])), (qD, .inl (cI, 4096, .inl (aN D))), (qN, .inl (cI, 24, .inl (aN (fN nms))))]) [2, 0, 1] rfl
        have hD9 := hD.sub (ws' := [(g0, .inr (5, [.int (nI 0), .ref qD, .ref qT, .int (nI U), .int (pI le wl), .int wd, .ref qN, .ref qO, .ref qS, .ref qC, .ref qP, .ref qG, .ref qB, .ref qF, .ref qX])), (qD, .inl (cI, 4096, .inl (aN D))), (qN, .inl (cI, 24, .inl (aN (fN nms))))]) [2, 0, 1] (by decide) rfl
        exact W.iret (v := nI (gre (ftB D U (nms ci)) (enN D) 32)) hx hb hr (fun t ht hW => ⟨⟨nI (gre (ftB D U (nms ci)) (enN D) 32), (), rfl, rfl, by rw [ht]; exact hP9, hD9⟩, hS.F ht⟩) hS.2.2 dX5_size_79
      · refine lv_bipush (v := nI 28) hx hb dX5_size_20 (by decide) ?_
        refine lv_aload_n hx hb dX5_size_22 rfl (lv_at hl 2 rfl) ?_
        refine va_get (D := dd) (ci := 5) (v := .ref qD) (C := RX5) (T := TX5) (N := 15) hx hb hts hin_X5 hown hK.1 hP 2 rfl rfl 1 (by decide) hf_7 (fun _ h9 => h9) rfl dX5_size_23 ?_
        refine lv_bipush (v := nI 16) hx hb dX5_size_26 (by decide) ?_
        refine lv_iload_n hx hb dX5_size_28 rfl (lv_at hl 0 rfl) ?_
        refine nr_imul (16 * k) (by omega) hx hb dX5_size_29 ?_
        refine lv_bipush (v := nI 7) hx hb dX5_size_30 (by decide) ?_
        refine nr_iadd (16 * k + 7) (by omega) hx hb dX5_size_32 ?_
        refine nr_iald (f := D) hx hb hK hP 0 rfl (by omega) (by decide) dX5_size_33 ?_
        have hv_6 := hDb (16 * k + 7)
        refine nr_imul (28 * (D (16 * k + 7))) (by omega) hx hb dX5_size_34 ?_
        refine lv_aload_n hx hb dX5_size_35 rfl (lv_at hl 2 rfl) ?_
        refine va_get (D := dd) (ci := 5) (v := .ref qD) (C := RX5) (T := TX5) (N := 15) hx hb hts hin_X5 hown hK.1 hP 2 rfl rfl 1 (by decide) hf_7 (fun _ h9 => h9) rfl dX5_size_36 ?_
        refine lv_bipush (v := nI 16) hx hb dX5_size_39 (by decide) ?_
        refine lv_iload_n hx hb dX5_size_41 rfl (lv_at hl 0 rfl) ?_
        refine nr_imul (16 * k) (by omega) hx hb dX5_size_42 ?_
        refine lv_bipush (v := nI 8) hx hb dX5_size_43 (by decide) ?_
        refine nr_iadd (16 * k + 8) (by omega) hx hb dX5_size_45 ?_
        refine nr_iald (f := D) hx hb hK hP 0 rfl (by omega) (by decide) dX5_size_46 ?_
        have hv_7 := hDb (16 * k + 8)
        refine nr_iadd (28 * (D (16 * k + 7)) + D (16 * k + 8)) (by omega) hx hb dX5_size_47 ?_
        refine lv_istore (lv' := [(4, .int (nI (28 * (D (16 * k + 7)) + D (16 * k + 8)))), (3, .int (nI k)), (2, .int (nI (gre (ftB D U (nms ci)) (enN D) k))), (0, .ref g0), (1, .int (nI ci))]) hx hb dX5_size_48 hl (by decide) rfl (fun ls hl => ?_)
        refine lv_aload_n hx hb dX5_size_50 rfl (lv_at hl 3 rfl) ?_
        refine lv_iload_n hx hb dX5_size_51 rfl (lv_at hl 4 rfl) ?_
        refine lv_iload_n hx hb dX5_size_52 rfl (lv_at hl 1 rfl) ?_
        refine cr_i (va_runV (As := [.int (nI ci), .int (nI k)]) (rest := []) ⟨hx, hb, hml, hown, hts⟩ (kX5_fits l dd cI cZ cR cJ g0 0 U le wl wd qD qT qN qO qS qC qP qG qB qF qX D nms ci k (by omega) (by omega) hDb hnb (by omega)) (cwV 2 hts gX5_size_X5_fits rfl rfl rfl (by decide +kernel) ⟨Nat.le_of_ble_eq_true rfl, Nat.le_of_ble_eq_true rfl⟩) (pv_c hK hP 2 rfl (ci := 5) rfl [2, 0, 1] rfl) rfl rfl hl.1 rfl (lv_room (Nat.le_of_ble_eq_true rfl)) dX5_size_53 ⟨Nat.zero_le _, Nat.zero_le _⟩) ?_
        refine br_if_eq (tgt := 70) hx hb dX5_size_56 (by decide) (fun c_56 => ?_) (fun c_56 => ?_)
        · refine lv_iload_n hx hb dX5_size_70 rfl (lv_at hl 2 rfl) ?_
          refine lv_istore_n (lv' := [(2, .int (nI (gre (ftB D U (nms ci)) (enN D) k))), (4, .int (nI (28 * (D (16 * k + 7)) + D (16 * k + 8)))), (3, .int (nI k)), (0, .ref g0), (1, .int (nI ci))]) hx hb dX5_size_71 rfl hl (by decide) rfl (fun ls hl => ?_)
          refine lv_iinc (v := nI (k + 1)) (lv' := [(3, .int (nI (k + 1))), (2, .int (nI (gre (ftB D U (nms ci)) (enN D) k))), (4, .int (nI (28 * (D (16 * k + 7)) + D (16 * k + 8)))), (0, .ref g0), (1, .int (nI ci))]) hx hb dX5_size_72 hl (k := 2) rfl (nr_inc _ _ (by omega)) (by decide) rfl (fun ls hl => ?_)
          refine lv_goto (tgt := 14) hx hb dX5_size_75 (by decide) ?_
          rw [show gre (ftB D U (nms ci)) (enN D) k = gre (ftB D U (nms ci)) (enN D) (k + 1) by simp [gre, enN, c_56]] at hl
          exact ih_5 (k + 1) (by omega) (by omega) _ _ hP hD hS ls (lv_sub hl [0, 1, 3, 4] rfl)
        · refine lv_iload hx hb dX5_size_59 (lv_at hl 0 rfl) ?_
          refine lv_iload_n hx hb dX5_size_61 rfl (lv_at hl 2 rfl) ?_
          refine nr_le (tgt := 70) hx hb (by omega) (by omega) dX5_size_62 (by decide) (fun c_62 => ?_) (fun c_62 => ?_)
          · refine lv_iload_n hx hb dX5_size_70 rfl (lv_at hl 2 rfl) ?_
            refine lv_istore_n (lv' := [(2, .int (nI (gre (ftB D U (nms ci)) (enN D) k))), (4, .int (nI (28 * (D (16 * k + 7)) + D (16 * k + 8)))), (3, .int (nI k)), (0, .ref g0), (1, .int (nI ci))]) hx hb dX5_size_71 rfl hl (by decide) rfl (fun ls hl => ?_)
            refine lv_iinc (v := nI (k + 1)) (lv' := [(3, .int (nI (k + 1))), (2, .int (nI (gre (ftB D U (nms ci)) (enN D) k))), (4, .int (nI (28 * (D (16 * k + 7)) + D (16 * k + 8)))), (0, .ref g0), (1, .int (nI ci))]) hx hb dX5_size_72 hl (k := 2) rfl (nr_inc _ _ (by omega)) (by decide) rfl (fun ls hl => ?_)
            refine lv_goto (tgt := 14) hx hb dX5_size_75 (by decide) ?_
            rw [show gre (ftB D U (nms ci)) (enN D) k = gre (ftB D U (nms ci)) (enN D) (k + 1) by simp [gre, enN, c_56]; omega] at hl
            exact ih_5 (k + 1) (by omega) (by omega) _ _ hP hD hS ls (lv_sub hl [0, 1, 3, 4] rfl)
          · refine lv_iload hx hb dX5_size_65 (lv_at hl 0 rfl) ?_
            refine lv_goto (tgt := 71) hx hb dX5_size_67 (by decide) ?_
            refine lv_istore_n (lv' := [(2, .int (nI (28 * (D (16 * k + 7)) + D (16 * k + 8)))), (4, .int (nI (28 * (D (16 * k + 7)) + D (16 * k + 8)))), (3, .int (nI k)), (0, .ref g0), (1, .int (nI ci))]) hx hb dX5_size_71 rfl hl (by decide) rfl (fun ls hl => ?_)
            refine lv_iinc (v := nI (k + 1)) (lv' := [(3, .int (nI (k + 1))), (2, .int (nI (28 * (D (16 * k + 7)) + D (16 * k + 8)))), (4, .int (nI (28 * (D (16 * k + 7)) + D (16 * k + 8)))), (0, .ref g0), (1, .int (nI ci))]) hx hb dX5_size_72 hl (k := 2) rfl (nr_inc _ _ (by omega)) (by decide) rfl (fun ls hl => ?_)
            refine lv_goto (tgt := 14) hx hb dX5_size_75 (by decide) ?_
            rw [show 28 * (D (16 * k + 7)) + D (16 * k + 8) = gre (ftB D U (nms ci)) (enN D) (k + 1) by simp [gre, enN, c_56]; omega] at hl
            exact ih_5 (k + 1) (by omega) (by omega) _ _ hP hD hS ls (lv_sub hl [0, 1, 3, 4] rfl)
  exact loop_4 (32 + 1) 0 (by omega) (by omega) _ _ hP hD hS ls (lv_sub hl [0, 1, 2, 3] rfl)

set_option maxHeartbeats 4000000 in
set_option maxRecDepth 100000 in
theorem kX5_has (l : Launch) (dd : va_G) (cI cZ cR cJ : ClassId) (g0 : Nat) (th : Nat) (U : Nat) (le : Bool) (wl : Nat) (wd : Int32) (qD : Nat) (qT : Nat) (qN : Nat) (qO : Nat) (qS : Nat) (qC : Nat) (qP : Nat) (qG : Nat) (qB : Nat) (qF : Nat) (qX : Nat) (ops : Nat → Bool) (sts : Nat → Nat) (cts : Nat → Nat) (pls : Nat → Nat) (bls : Nat → Nat → Nat) (ci : Nat) (wh : Nat) (sz : Nat) (hci : ci < 4) (hwh : wh ≤ 10) : Met l yX5_has wsX5_has ({ frames := 0, cells := 0, slots := 0, locals := 0 }) (va_Pc [.ref g0, .int (nI ci), .int (nI wh)] (qm dd cI cZ cR cJ sz [(g0, .inr (5, [.int (nI th), .ref qD, .ref qT, .int (nI U), .int (pI le wl), .int wd, .ref qN, .ref qO, .ref qS, .ref qC, .ref qP, .ref qG, .ref qB, .ref qF, .ref qX])), (qO, .inl (cZ, 4, .inl (aB ops))), (qS, .inl (cI, 4, .inl (aN sts))), (qC, .inl (cI, 4, .inl (aN cts))), (qP, .inl (cI, 4, .inl (aN pls))), (qB, .inl (cI, 28, .inl (aN (fB bls))))])) (va_Qi (fun (r : Int32) (u : Unit) => r = nI (hasN (ops ci) (sts ci) (cts ci) (pls ci) (bls ci) wh)) (fun u t => qa dd (va_A [(g0, .inr (5, [.int (nI th), .ref qD, .ref qT, .int (nI U), .int (pI le wl), .int wd, .ref qN, .ref qO, .ref qS, .ref qC, .ref qP, .ref qG, .ref qB, .ref qF, .ref qX])), (qO, .inl (cZ, 4, .inl (aB ops))), (qS, .inl (cI, 4, .inl (aN sts))), (qC, .inl (cI, 4, .inl (aN cts))), (qP, .inl (cI, 4, .inl (aN pls))), (qB, .inl (cI, 28, .inl (aN (fB bls))))] sz) [(g0, .inr (5, [.int (nI 0), .ref qD, .ref qT, .int (nI U), .int (pI le wl), .int wd, .ref qN, .ref qO, .ref qS, .ref qC, .ref qP, .ref qG, .ref qB, .ref qF, .ref qX])), (qO, .inl (cZ, 4, .inl (aB ops))), (qS, .inl (cI, 4, .inl (aN sts))), (qC, .inl (cI, 4, .inl (aN cts))), (qP, .inl (cI, 4, .inl (aN pls))), (qB, .inl (cI, 28, .inl (aN (fB bls))))] t) (va_A [(g0, .inr (5, [.int (nI th), .ref qD, .ref qT, .int (nI U), .int (pI le wl), .int wd, .ref qN, .ref qO, .ref qS, .ref qC, .ref qP, .ref qG, .ref qB, .ref qF, .ref qX])), (qO, .inl (cZ, 4, .inl (aB ops))), (qS, .inl (cI, 4, .inl (aN sts))), (qC, .inl (cI, 4, .inl (aN cts))), (qP, .inl (cI, 4, .inl (aN pls))), (qB, .inl (cI, 28, .inl (aN (fB bls))))] sz)) 0 0 (va_A [(g0, .inr (5, [.int (nI th), .ref qD, .ref qT, .int (nI U), .int (pI le wl), .int wd, .ref qN, .ref qO, .ref qS, .ref qC, .ref qP, .ref qG, .ref qB, .ref qF, .ref qX])), (qO, .inl (cZ, 4, .inl (aB ops))), (qS, .inl (cI, 4, .inl (aN sts))), (qC, .inl (cI, 4, .inl (aN cts))), (qP, .inl (cI, 4, .inl (aN pls))), (qB, .inl (cI, 28, .inl (aN (fB bls))))] sz) := by
  refine mk_mut (cc := cX5_has) (maxL := 3) (ret := (some .int)) (Qf := fun A => va_Qi (fun (r : Int32) (u : Unit) => r = nI (hasN (ops ci) (sts ci) (cts ci) (pls ci) (bls ci) wh)) (fun u t => qa dd A [(g0, .inr (5, [.int (nI 0), .ref qD, .ref qT, .int (nI U), .int (pI le wl), .int wd, .ref qN, .ref qO, .ref qS, .ref qC, .ref qP, .ref qG, .ref qB, .ref qF, .ref qX])), (qO, .inl (cZ, 4, .inl (aB ops))), (qS, .inl (cI, 4, .inl (aN sts))), (qC, .inl (cI, 4, .inl (aN cts))), (qP, .inl (cI, 4, .inl (aN pls))), (qB, .inl (cI, 28, .inl (aN (fB bls))))] t) A) (by decide) rfl (Nat.le_of_ble_eq_true rfl) ?_
  intro p e s m below meth c A hx hb hr hts hown hlocks hml hin hP hD hA hS hK ls hl
  have hown : s.vm.findClass RX5 = some m.cls := hown
  have hl : lv_has ls 3 [(0, .ref g0), (1, .int (nI ci)), (2, .int (nI wh))] := hl
  have hf_48 := hts (.fieldLink RX5 48 "RecordSystemModel" "thrown" "I") (by decide +kernel)
  have hin_X5 : ∀ w ∈ wsX50, w ∈ wsX5_has := by decide +kernel
  have hf_24 := hts (.fieldLink RX5 24 "RecordSystemModel" "open" "[Z") (by decide +kernel)
  have hf_39 := hts (.fieldLink RX5 39 "RecordSystemModel" "blocks" "[I") (by decide +kernel)
  have hf_33 := hts (.fieldLink RX5 33 "RecordSystemModel" "place" "[I") (by decide +kernel)
  have hf_30 := hts (.fieldLink RX5 30 "RecordSystemModel" "count" "[I") (by decide +kernel)
  have hf_27 := hts (.fieldLink RX5 27 "RecordSystemModel" "stretch" "[I") (by decide +kernel)
  refine lv_aload_n hx hb dX5_has_0 rfl (lv_at hl 0 rfl) ?_
  refine lv_iload_n hx hb dX5_has_1 rfl (lv_at hl 1 rfl) ?_
  refine nr_if_lt (tgt := 10) hx hb (by omega) dX5_has_2 (by decide) ?_
  refine lv_iload_n hx hb dX5_has_5 rfl (lv_at hl 1 rfl) ?_
  refine lv_iconst (v := nI 3) hx hb dX5_has_6 (by decide) ?_
  refine nr_le (tgt := 14) hx hb (by omega) (by omega) dX5_has_7 (by decide) (fun c_7 => ?_) (fun c_7 => absurd c_7 (by omega))
  refine lv_iload_n hx hb dX5_has_14 rfl (lv_at hl 2 rfl) ?_
  refine nr_if_lt (tgt := 24) hx hb (by omega) dX5_has_15 (by decide) ?_
  refine lv_iload_n hx hb dX5_has_18 rfl (lv_at hl 2 rfl) ?_
  refine lv_bipush (v := nI 10) hx hb dX5_has_19 (by decide) ?_
  refine nr_le (tgt := 28) hx hb (by omega) (by omega) dX5_has_21 (by decide) (fun c_21 => ?_) (fun c_21 => absurd c_21 (by omega))
  refine lv_iconst (v := nI 0) hx hb dX5_has_28 (by decide) ?_
  refine va_put (D := dd) (ci := 5) (v := .int (nI 0)) (ty := .int) (C := RX5) (T := TX5) (N := 15) hx hb hts hin_X5 tyX5 tyX5_ok nmX5 hown hK.1 hP hD hS 0 rfl rfl 0 (by decide) hf_48 (fun _ h9 => h9) rfl (by decide +kernel) rfl rfl (Nat.le_of_ble_eq_true rfl) dX5_has_29 (fun H locs hP hD hS => ?_)
  have hP : va_P dd vwCl [(g0, .inr (5, [.int (nI 0), .ref qD, .ref qT, .int (nI U), .int (pI le wl), .int wd, .ref qN, .ref qO, .ref qS, .ref qC, .ref qP, .ref qG, .ref qB, .ref qF, .ref qX])), (qO, .inl (cZ, 4, .inl (aB ops))), (qS, .inl (cI, 4, .inl (aN sts))), (qC, .inl (cI, 4, .inl (aN cts))), (qP, .inl (cI, 4, .inl (aN pls))), (qB, .inl (cI, 28, .inl (aN (fB bls))))] H := hP
  have hD : va_D A [(g0, .inr (5, [.int (nI 0), .ref qD, .ref qT, .int (nI U), .int (pI le wl), .int wd, .ref qN, .ref qO, .ref qS, .ref qC, .ref qP, .ref qG, .ref qB, .ref qF, .ref qX])), (qO, .inl (cZ, 4, .inl (aB ops))), (qS, .inl (cI, 4, .inl (aN sts))), (qC, .inl (cI, 4, .inl (aN cts))), (qP, .inl (cI, 4, .inl (aN pls))), (qB, .inl (cI, 28, .inl (aN (fB bls))))] := hD
  refine lv_aload_n hx hb dX5_has_32 rfl (lv_at hl 0 rfl) ?_
  refine va_get (D := dd) (ci := 5) (v := .int (nI 0)) (C := RX5) (T := TX5) (N := 15) hx hb hts hin_X5 hown hK.1 hP 0 rfl rfl 0 (by decide) hf_48 (fun _ h9 => h9) rfl dX5_has_33 ?_
  refine nr_if_gt (tgt := 48) hx hb (by omega) dX5_has_36 (by decide) (fun c_36 => absurd c_36 (by omega)) (fun c_36 => ?_)
  refine lv_aload_n hx hb dX5_has_39 rfl (lv_at hl 0 rfl) ?_
  refine va_get (D := dd) (ci := 5) (v := .ref qO) (C := RX5) (T := TX5) (N := 15) hx hb hts hin_X5 hown hK.1 hP 0 rfl rfl 7 (by decide) hf_24 (fun _ h9 => h9) rfl dX5_has_40 ?_
  refine lv_iload_n hx hb dX5_has_43 rfl (lv_at hl 1 rfl) ?_
  refine nr_zald (f := ops) hx hb hK hP 1 rfl (by omega) (by decide) dX5_has_44 ?_
  refine br_if_ne (tgt := 50) hx hb dX5_has_45 (by decide) (fun c_45 => ?_) (fun c_45 => ?_)
  · refine lv_iload_n hx hb dX5_has_50 rfl (lv_at hl 2 rfl) ?_
    refine nr_if_ne (tgt := 58) hx hb (by omega) dX5_has_51 (by decide) (fun c_51 => ?_) (fun c_51 => ?_)
    · refine lv_iload_n hx hb dX5_has_58 rfl (lv_at hl 2 rfl) ?_
      refine lv_iconst (v := nI 1) hx hb dX5_has_59 (by decide) ?_
      refine nr_ne (tgt := 72) hx hb (by omega) (by omega) dX5_has_60 (by decide) (fun c_60 => ?_) (fun c_60 => ?_)
      · refine lv_iload_n hx hb dX5_has_72 rfl (lv_at hl 2 rfl) ?_
        refine lv_iconst (v := nI 2) hx hb dX5_has_73 (by decide) ?_
        refine nr_ne (tgt := 86) hx hb (by omega) (by omega) dX5_has_74 (by decide) (fun c_74 => ?_) (fun c_74 => ?_)
        · refine lv_iload_n hx hb dX5_has_86 rfl (lv_at hl 2 rfl) ?_
          refine lv_iconst (v := nI 3) hx hb dX5_has_87 (by decide) ?_
          refine nr_ne (tgt := 100) hx hb (by omega) (by omega) dX5_has_88 (by decide) (fun c_88 => ?_) (fun c_88 => ?_)
          · refine lv_aload_n hx hb dX5_has_100 rfl (lv_at hl 0 rfl) ?_
            refine va_get (D := dd) (ci := 5) (v := .ref qB) (C := RX5) (T := TX5) (N := 15) hx hb hts hin_X5 hown hK.1 hP 0 rfl rfl 12 (by decide) hf_39 (fun _ h9 => h9) rfl dX5_has_101 ?_
            refine lv_bipush (v := nI 7) hx hb dX5_has_104 (by decide) ?_
            refine lv_iload_n hx hb dX5_has_106 rfl (lv_at hl 1 rfl) ?_
            refine nr_imul (7 * ci) (by omega) hx hb dX5_has_107 ?_
            refine lv_iload_n hx hb dX5_has_108 rfl (lv_at hl 2 rfl) ?_
            refine nr_iadd (7 * ci + wh) (by omega) hx hb dX5_has_109 ?_
            refine lv_iconst (v := nI 4) hx hb dX5_has_110 (by decide) ?_
            refine nr_isub (7 * ci + wh - 4) (by omega) hx hb (by omega) dX5_has_111 ?_
            refine nr_iald (f := fB bls) hx hb hK hP 5 rfl (by omega) (by decide) dX5_has_112 ?_
            refine nr_top (b := bls ci (wh - 4)) (by rw [show 7 * ci + wh - 4 = 7 * ci + (wh - 4) by omega]; exact fB_at (by omega)) ?_
            have hP9 := hP.sub (ws' := [(g0, .inr (5, [.int (nI 0), .ref qD, .ref qT, .int (nI U), .int (pI le wl), .int wd, .ref qN, .ref qO, .ref qS, .ref qC, .ref qP, .ref qG, .ref qB, .ref qF, .ref qX])), (qO, .inl (cZ, 4, .inl (aB ops))), (qS, .inl (cI, 4, .inl (aN sts))), (qC, .inl (cI, 4, .inl (aN cts))), (qP, .inl (cI, 4, .inl (aN pls))), (qB, .inl (cI, 28, .inl (aN (fB bls))))]) [0, 1, 2, 3, 4, 5] rfl
            have hD9 := hD.sub (ws' := [(g0, .inr (5, [.int (nI 0), .ref qD, .ref qT, .int (nI U), .int (pI le wl), .int wd, .ref qN, .ref qO, .ref qS, .ref qC, .ref qP, .ref qG, .ref qB, .ref qF, .ref qX])), (qO, .inl (cZ, 4, .inl (aB ops))), (qS, .inl (cI, 4, .inl (aN sts))), (qC, .inl (cI, 4, .inl (aN cts))), (qP, .inl (cI, 4, .inl (aN pls))), (qB, .inl (cI, 28, .inl (aN (fB bls))))]) [0, 1, 2, 3, 4, 5] (by decide) rfl
            exact W.iret (v := nI (bls ci (wh - 4))) hx hb hr (fun t ht hW => ⟨⟨nI (bls ci (wh - 4)), (), rfl, by simp [hasN, c_45, c_51, c_60, c_74, c_88], by rw [ht]; exact hP9, hD9⟩, hS.F ht⟩) hS.2.2 dX5_has_113
          · refine lv_aload_n hx hb dX5_has_91 rfl (lv_at hl 0 rfl) ?_
            refine va_get (D := dd) (ci := 5) (v := .ref qP) (C := RX5) (T := TX5) (N := 15) hx hb hts hin_X5 hown hK.1 hP 0 rfl rfl 10 (by decide) hf_33 (fun _ h9 => h9) rfl dX5_has_92 ?_
            refine lv_iload_n hx hb dX5_has_95 rfl (lv_at hl 1 rfl) ?_
            refine nr_iald (f := pls) hx hb hK hP 4 rfl (by omega) (by decide) dX5_has_96 ?_
            refine lv_goto (tgt := 113) hx hb dX5_has_97 (by decide) ?_
            have hP9 := hP.sub (ws' := [(g0, .inr (5, [.int (nI 0), .ref qD, .ref qT, .int (nI U), .int (pI le wl), .int wd, .ref qN, .ref qO, .ref qS, .ref qC, .ref qP, .ref qG, .ref qB, .ref qF, .ref qX])), (qO, .inl (cZ, 4, .inl (aB ops))), (qS, .inl (cI, 4, .inl (aN sts))), (qC, .inl (cI, 4, .inl (aN cts))), (qP, .inl (cI, 4, .inl (aN pls))), (qB, .inl (cI, 28, .inl (aN (fB bls))))]) [0, 1, 2, 3, 4, 5] rfl
            have hD9 := hD.sub (ws' := [(g0, .inr (5, [.int (nI 0), .ref qD, .ref qT, .int (nI U), .int (pI le wl), .int wd, .ref qN, .ref qO, .ref qS, .ref qC, .ref qP, .ref qG, .ref qB, .ref qF, .ref qX])), (qO, .inl (cZ, 4, .inl (aB ops))), (qS, .inl (cI, 4, .inl (aN sts))), (qC, .inl (cI, 4, .inl (aN cts))), (qP, .inl (cI, 4, .inl (aN pls))), (qB, .inl (cI, 28, .inl (aN (fB bls))))]) [0, 1, 2, 3, 4, 5] (by decide) rfl
            exact W.iret (v := nI (pls ci)) hx hb hr (fun t ht hW => ⟨⟨nI (pls ci), (), rfl, by simp [hasN, c_45, c_51, c_60, c_74, c_88], by rw [ht]; exact hP9, hD9⟩, hS.F ht⟩) hS.2.2 dX5_has_113
        · refine lv_aload_n hx hb dX5_has_77 rfl (lv_at hl 0 rfl) ?_
          refine va_get (D := dd) (ci := 5) (v := .ref qC) (C := RX5) (T := TX5) (N := 15) hx hb hts hin_X5 hown hK.1 hP 0 rfl rfl 9 (by decide) hf_30 (fun _ h9 => h9) rfl dX5_has_78 ?_
          refine lv_iload_n hx hb dX5_has_81 rfl (lv_at hl 1 rfl) ?_
          refine nr_iald (f := cts) hx hb hK hP 3 rfl (by omega) (by decide) dX5_has_82 ?_
          refine lv_goto (tgt := 113) hx hb dX5_has_83 (by decide) ?_
          have hP9 := hP.sub (ws' := [(g0, .inr (5, [.int (nI 0), .ref qD, .ref qT, .int (nI U), .int (pI le wl), .int wd, .ref qN, .ref qO, .ref qS, .ref qC, .ref qP, .ref qG, .ref qB, .ref qF, .ref qX])), (qO, .inl (cZ, 4, .inl (aB ops))), (qS, .inl (cI, 4, .inl (aN sts))), (qC, .inl (cI, 4, .inl (aN cts))), (qP, .inl (cI, 4, .inl (aN pls))), (qB, .inl (cI, 28, .inl (aN (fB bls))))]) [0, 1, 2, 3, 4, 5] rfl
          have hD9 := hD.sub (ws' := [(g0, .inr (5, [.int (nI 0), .ref qD, .ref qT, .int (nI U), .int (pI le wl), .int wd, .ref qN, .ref qO, .ref qS, .ref qC, .ref qP, .ref qG, .ref qB, .ref qF, .ref qX])), (qO, .inl (cZ, 4, .inl (aB ops))), (qS, .inl (cI, 4, .inl (aN sts))), (qC, .inl (cI, 4, .inl (aN cts))), (qP, .inl (cI, 4, .inl (aN pls))), (qB, .inl (cI, 28, .inl (aN (fB bls))))]) [0, 1, 2, 3, 4, 5] (by decide) rfl
          exact W.iret (v := nI (cts ci)) hx hb hr (fun t ht hW => ⟨⟨nI (cts ci), (), rfl, by simp [hasN, c_45, c_51, c_60, c_74], by rw [ht]; exact hP9, hD9⟩, hS.F ht⟩) hS.2.2 dX5_has_113
      · refine lv_aload_n hx hb dX5_has_63 rfl (lv_at hl 0 rfl) ?_
        refine va_get (D := dd) (ci := 5) (v := .ref qS) (C := RX5) (T := TX5) (N := 15) hx hb hts hin_X5 hown hK.1 hP 0 rfl rfl 8 (by decide) hf_27 (fun _ h9 => h9) rfl dX5_has_64 ?_
        refine lv_iload_n hx hb dX5_has_67 rfl (lv_at hl 1 rfl) ?_
        refine nr_iald (f := sts) hx hb hK hP 2 rfl (by omega) (by decide) dX5_has_68 ?_
        refine lv_goto (tgt := 113) hx hb dX5_has_69 (by decide) ?_
        have hP9 := hP.sub (ws' := [(g0, .inr (5, [.int (nI 0), .ref qD, .ref qT, .int (nI U), .int (pI le wl), .int wd, .ref qN, .ref qO, .ref qS, .ref qC, .ref qP, .ref qG, .ref qB, .ref qF, .ref qX])), (qO, .inl (cZ, 4, .inl (aB ops))), (qS, .inl (cI, 4, .inl (aN sts))), (qC, .inl (cI, 4, .inl (aN cts))), (qP, .inl (cI, 4, .inl (aN pls))), (qB, .inl (cI, 28, .inl (aN (fB bls))))]) [0, 1, 2, 3, 4, 5] rfl
        have hD9 := hD.sub (ws' := [(g0, .inr (5, [.int (nI 0), .ref qD, .ref qT, .int (nI U), .int (pI le wl), .int wd, .ref qN, .ref qO, .ref qS, .ref qC, .ref qP, .ref qG, .ref qB, .ref qF, .ref qX])), (qO, .inl (cZ, 4, .inl (aB ops))), (qS, .inl (cI, 4, .inl (aN sts))), (qC, .inl (cI, 4, .inl (aN cts))), (qP, .inl (cI, 4, .inl (aN pls))), (qB, .inl (cI, 28, .inl (aN (fB bls))))]) [0, 1, 2, 3, 4, 5] (by decide) rfl
        exact W.iret (v := nI (sts ci)) hx hb hr (fun t ht hW => ⟨⟨nI (sts ci), (), rfl, by simp [hasN, c_45, c_51, c_60], by rw [ht]; exact hP9, hD9⟩, hS.F ht⟩) hS.2.2 dX5_has_113
    · refine lv_iconst (v := nI 1) hx hb dX5_has_54 (by decide) ?_
      refine lv_goto (tgt := 113) hx hb dX5_has_55 (by decide) ?_
      have hP9 := hP.sub (ws' := [(g0, .inr (5, [.int (nI 0), .ref qD, .ref qT, .int (nI U), .int (pI le wl), .int wd, .ref qN, .ref qO, .ref qS, .ref qC, .ref qP, .ref qG, .ref qB, .ref qF, .ref qX])), (qO, .inl (cZ, 4, .inl (aB ops))), (qS, .inl (cI, 4, .inl (aN sts))), (qC, .inl (cI, 4, .inl (aN cts))), (qP, .inl (cI, 4, .inl (aN pls))), (qB, .inl (cI, 28, .inl (aN (fB bls))))]) [0, 1, 2, 3, 4, 5] rfl
      have hD9 := hD.sub (ws' := [(g0, .inr (5, [.int (nI 0), .ref qD, .ref qT, .int (nI U), .int (pI le wl), .int wd, .ref qN, .ref qO, .ref qS, .ref qC, .ref qP, .ref qG, .ref qB, .ref qF, .ref qX])), (qO, .inl (cZ, 4, .inl (aB ops))), (qS, .inl (cI, 4, .inl (aN sts))), (qC, .inl (cI, 4, .inl (aN cts))), (qP, .inl (cI, 4, .inl (aN pls))), (qB, .inl (cI, 28, .inl (aN (fB bls))))]) [0, 1, 2, 3, 4, 5] (by decide) rfl
      exact W.iret (v := nI 1) hx hb hr (fun t ht hW => ⟨⟨nI 1, (), rfl, by simp [hasN, c_45, c_51], by rw [ht]; exact hP9, hD9⟩, hS.F ht⟩) hS.2.2 dX5_has_113
  · refine lv_iconst (v := nI 0) hx hb dX5_has_48 (by decide) ?_
    have hP9 := hP.sub (ws' := [(g0, .inr (5, [.int (nI 0), .ref qD, .ref qT, .int (nI U), .int (pI le wl), .int wd, .ref qN, .ref qO, .ref qS, .ref qC, .ref qP, .ref qG, .ref qB, .ref qF, .ref qX])), (qO, .inl (cZ, 4, .inl (aB ops))), (qS, .inl (cI, 4, .inl (aN sts))), (qC, .inl (cI, 4, .inl (aN cts))), (qP, .inl (cI, 4, .inl (aN pls))), (qB, .inl (cI, 28, .inl (aN (fB bls))))]) [0, 1, 2, 3, 4, 5] rfl
    have hD9 := hD.sub (ws' := [(g0, .inr (5, [.int (nI 0), .ref qD, .ref qT, .int (nI U), .int (pI le wl), .int wd, .ref qN, .ref qO, .ref qS, .ref qC, .ref qP, .ref qG, .ref qB, .ref qF, .ref qX])), (qO, .inl (cZ, 4, .inl (aB ops))), (qS, .inl (cI, 4, .inl (aN sts))), (qC, .inl (cI, 4, .inl (aN cts))), (qP, .inl (cI, 4, .inl (aN pls))), (qB, .inl (cI, 28, .inl (aN (fB bls))))]) [0, 1, 2, 3, 4, 5] (by decide) rfl
    exact W.iret (v := nI 0) hx hb hr (fun t ht hW => ⟨⟨nI 0, (), rfl, by simp [hasN, c_45], by rw [ht]; exact hP9, hD9⟩, hS.F ht⟩) hS.2.2 dX5_has_49

set_option maxHeartbeats 4000000 in
set_option maxRecDepth 100000 in
theorem kX5_set (l : Launch) (dd : va_G) (cI cZ cR cJ : ClassId) (g0 : Nat) (th : Nat) (U : Nat) (le : Bool) (wl : Nat) (wd : Int32) (qD : Nat) (qT : Nat) (qN : Nat) (qO : Nat) (qS : Nat) (qC : Nat) (qP : Nat) (qG : Nat) (qB : Nat) (qF : Nat) (qX : Nat) (bf : Nat → Nat) (i : Nat) (v : Nat) (sz : Nat) (hi : i < 16) (hv : v ≤ 255) : Met l yX5_set wsX5_set ({ frames := 0, cells := 0, slots := 0, locals := 0 }) (va_Pc [.ref g0, .int (nI i), .int (nI v)] (qm dd cI cZ cR cJ sz [(g0, .inr (5, [.int (nI th), .ref qD, .ref qT, .int (nI U), .int (pI le wl), .int wd, .ref qN, .ref qO, .ref qS, .ref qC, .ref qP, .ref qG, .ref qB, .ref qF, .ref qX])), (qF, .inl (cI, 16, .inl (aN bf)))])) (va_Qi (fun (r : Int32) (u : Unit) => r = nI (bf i)) (fun u t => qa dd (va_A [(g0, .inr (5, [.int (nI th), .ref qD, .ref qT, .int (nI U), .int (pI le wl), .int wd, .ref qN, .ref qO, .ref qS, .ref qC, .ref qP, .ref qG, .ref qB, .ref qF, .ref qX])), (qF, .inl (cI, 16, .inl (aN bf)))] sz) [(g0, .inr (5, [.int (nI 0), .ref qD, .ref qT, .int (nI U), .int (pI le wl), .int wd, .ref qN, .ref qO, .ref qS, .ref qC, .ref qP, .ref qG, .ref qB, .ref qF, .ref qX])), (qF, .inl (cI, 16, .inl (aN (va_up bf i v))))] t) (va_A [(g0, .inr (5, [.int (nI th), .ref qD, .ref qT, .int (nI U), .int (pI le wl), .int wd, .ref qN, .ref qO, .ref qS, .ref qC, .ref qP, .ref qG, .ref qB, .ref qF, .ref qX])), (qF, .inl (cI, 16, .inl (aN bf)))] sz)) 0 0 (va_A [(g0, .inr (5, [.int (nI th), .ref qD, .ref qT, .int (nI U), .int (pI le wl), .int wd, .ref qN, .ref qO, .ref qS, .ref qC, .ref qP, .ref qG, .ref qB, .ref qF, .ref qX])), (qF, .inl (cI, 16, .inl (aN bf)))] sz) := by
  refine mk_mut (cc := cX5_set) (maxL := 4) (ret := (some .int)) (Qf := fun A => va_Qi (fun (r : Int32) (u : Unit) => r = nI (bf i)) (fun u t => qa dd A [(g0, .inr (5, [.int (nI 0), .ref qD, .ref qT, .int (nI U), .int (pI le wl), .int wd, .ref qN, .ref qO, .ref qS, .ref qC, .ref qP, .ref qG, .ref qB, .ref qF, .ref qX])), (qF, .inl (cI, 16, .inl (aN (va_up bf i v))))] t) A) (by decide) rfl (Nat.le_of_ble_eq_true rfl) ?_
  intro p e s m below meth c A hx hb hr hts hown hlocks hml hin hP hD hA hS hK ls hl
  have hown : s.vm.findClass RX5 = some m.cls := hown
  have hl : lv_has ls 4 [(0, .ref g0), (1, .int (nI i)), (2, .int (nI v))] := hl
  have hf_48 := hts (.fieldLink RX5 48 "RecordSystemModel" "thrown" "I") (by decide +kernel)
  have hin_X5 : ∀ w ∈ wsX50, w ∈ wsX5_set := by decide +kernel
  have hf_42 := hts (.fieldLink RX5 42 "RecordSystemModel" "buffer" "[I") (by decide +kernel)
  refine lv_aload_n hx hb dX5_set_0 rfl (lv_at hl 0 rfl) ?_
  refine lv_iload_n hx hb dX5_set_1 rfl (lv_at hl 1 rfl) ?_
  refine nr_if_lt (tgt := 11) hx hb (by omega) dX5_set_2 (by decide) ?_
  refine lv_iload_n hx hb dX5_set_5 rfl (lv_at hl 1 rfl) ?_
  refine lv_bipush (v := nI 15) hx hb dX5_set_6 (by decide) ?_
  refine nr_le (tgt := 15) hx hb (by omega) (by omega) dX5_set_8 (by decide) (fun c_8 => ?_) (fun c_8 => absurd c_8 (by omega))
  refine lv_iload_n hx hb dX5_set_15 rfl (lv_at hl 2 rfl) ?_
  refine nr_if_lt (tgt := 26) hx hb (by omega) dX5_set_16 (by decide) ?_
  refine lv_iload_n hx hb dX5_set_19 rfl (lv_at hl 2 rfl) ?_
  refine lv_sipush (v := nI 255) hx hb dX5_set_20 (by decide) ?_
  refine nr_le (tgt := 30) hx hb (by omega) (by omega) dX5_set_23 (by decide) (fun c_23 => ?_) (fun c_23 => absurd c_23 (by omega))
  refine lv_iconst (v := nI 0) hx hb dX5_set_30 (by decide) ?_
  refine va_put (D := dd) (ci := 5) (v := .int (nI 0)) (ty := .int) (C := RX5) (T := TX5) (N := 15) hx hb hts hin_X5 tyX5 tyX5_ok nmX5 hown hK.1 hP hD hS 0 rfl rfl 0 (by decide) hf_48 (fun _ h9 => h9) rfl (by decide +kernel) rfl rfl (Nat.le_of_ble_eq_true rfl) dX5_set_31 (fun H locs hP hD hS => ?_)
  have hP : va_P dd vwCl [(g0, .inr (5, [.int (nI 0), .ref qD, .ref qT, .int (nI U), .int (pI le wl), .int wd, .ref qN, .ref qO, .ref qS, .ref qC, .ref qP, .ref qG, .ref qB, .ref qF, .ref qX])), (qF, .inl (cI, 16, .inl (aN bf)))] H := hP
  have hD : va_D A [(g0, .inr (5, [.int (nI 0), .ref qD, .ref qT, .int (nI U), .int (pI le wl), .int wd, .ref qN, .ref qO, .ref qS, .ref qC, .ref qP, .ref qG, .ref qB, .ref qF, .ref qX])), (qF, .inl (cI, 16, .inl (aN bf)))] := hD
  refine lv_aload_n hx hb dX5_set_34 rfl (lv_at hl 0 rfl) ?_
  refine va_get (D := dd) (ci := 5) (v := .int (nI 0)) (C := RX5) (T := TX5) (N := 15) hx hb hts hin_X5 hown hK.1 hP 0 rfl rfl 0 (by decide) hf_48 (fun _ h9 => h9) rfl dX5_set_35 ?_
  refine nr_if_le (tgt := 43) hx hb (by omega) dX5_set_38 (by decide) (fun c_38 => ?_) (fun c_38 => absurd c_38 (by omega))
  refine lv_aload_n hx hb dX5_set_43 rfl (lv_at hl 0 rfl) ?_
  refine va_get (D := dd) (ci := 5) (v := .ref qF) (C := RX5) (T := TX5) (N := 15) hx hb hts hin_X5 hown hK.1 hP 0 rfl rfl 13 (by decide) hf_42 (fun _ h9 => h9) rfl dX5_set_44 ?_
  refine lv_iload_n hx hb dX5_set_47 rfl (lv_at hl 1 rfl) ?_
  refine nr_iald (f := bf) hx hb hK hP 1 rfl (by omega) (by decide) dX5_set_48 ?_
  refine lv_istore_n (lv' := [(3, .int (nI (bf i))), (0, .ref g0), (1, .int (nI i)), (2, .int (nI v))]) hx hb dX5_set_49 rfl hl (by decide) rfl (fun ls hl => ?_)
  refine lv_aload_n hx hb dX5_set_50 rfl (lv_at hl 1 rfl) ?_
  refine va_get (D := dd) (ci := 5) (v := .ref qF) (C := RX5) (T := TX5) (N := 15) hx hb hts hin_X5 hown hK.1 hP 0 rfl rfl 13 (by decide) hf_42 (fun _ h9 => h9) rfl dX5_set_51 ?_
  refine lv_iload_n hx hb dX5_set_54 rfl (lv_at hl 2 rfl) ?_
  refine lv_iload_n hx hb dX5_set_55 rfl (lv_at hl 3 rfl) ?_
  refine nr_iast (f := bf) (v := v) hx hb hK hP hD hS 1 rfl (by omega) (by decide) dX5_set_56 (fun H locs hP hD hS => ?_)
  have hP : va_P dd vwCl [(g0, .inr (5, [.int (nI 0), .ref qD, .ref qT, .int (nI U), .int (pI le wl), .int wd, .ref qN, .ref qO, .ref qS, .ref qC, .ref qP, .ref qG, .ref qB, .ref qF, .ref qX])), (qF, .inl (cI, 16, .inl (aN (va_up bf i v))))] H := hP
  have hD : va_D A [(g0, .inr (5, [.int (nI 0), .ref qD, .ref qT, .int (nI U), .int (pI le wl), .int wd, .ref qN, .ref qO, .ref qS, .ref qC, .ref qP, .ref qG, .ref qB, .ref qF, .ref qX])), (qF, .inl (cI, 16, .inl (aN (va_up bf i v))))] := hD
  refine lv_iload_n hx hb dX5_set_57 rfl (lv_at hl 0 rfl) ?_
  have hP9 := hP.sub (ws' := [(g0, .inr (5, [.int (nI 0), .ref qD, .ref qT, .int (nI U), .int (pI le wl), .int wd, .ref qN, .ref qO, .ref qS, .ref qC, .ref qP, .ref qG, .ref qB, .ref qF, .ref qX])), (qF, .inl (cI, 16, .inl (aN (va_up bf i v))))]) [0, 1] rfl
  have hD9 := hD.sub (ws' := [(g0, .inr (5, [.int (nI 0), .ref qD, .ref qT, .int (nI U), .int (pI le wl), .int wd, .ref qN, .ref qO, .ref qS, .ref qC, .ref qP, .ref qG, .ref qB, .ref qF, .ref qX])), (qF, .inl (cI, 16, .inl (aN (va_up bf i v))))]) [0, 1] (by decide) rfl
  exact W.iret (v := nI (bf i)) hx hb hr (fun t ht hW => ⟨⟨nI (bf i), (), rfl, rfl, by rw [ht]; exact hP9, hD9⟩, hS.F ht⟩) hS.2.2 dX5_set_58

set_option maxHeartbeats 4000000 in
set_option maxRecDepth 100000 in
theorem kX5_buffer (l : Launch) (dd : va_G) (cI cZ cR cJ : ClassId) (g0 : Nat) (th : Nat) (U : Nat) (le : Bool) (wl : Nat) (wd : Int32) (qD : Nat) (qT : Nat) (qN : Nat) (qO : Nat) (qS : Nat) (qC : Nat) (qP : Nat) (qG : Nat) (qB : Nat) (qF : Nat) (qX : Nat) (bf : Nat → Nat) (hh : Nat) (sz : Nat) (hhh : hh < 2) : Met l yX5_buffer wsX5_buffer ({ frames := 0, cells := 0, slots := 0, locals := 0 }) (va_Pc [.ref g0, .int (nI hh)] (qm dd cI cZ cR cJ sz [(g0, .inr (5, [.int (nI th), .ref qD, .ref qT, .int (nI U), .int (pI le wl), .int wd, .ref qN, .ref qO, .ref qS, .ref qC, .ref qP, .ref qG, .ref qB, .ref qF, .ref qX])), (qF, .inl (cI, 16, .inl (aN bf)))])) (va_Ql (fun (r : Int64) (u : Unit) => r = bfM bf hh 8) (fun u t => qa dd (va_A [(g0, .inr (5, [.int (nI th), .ref qD, .ref qT, .int (nI U), .int (pI le wl), .int wd, .ref qN, .ref qO, .ref qS, .ref qC, .ref qP, .ref qG, .ref qB, .ref qF, .ref qX])), (qF, .inl (cI, 16, .inl (aN bf)))] sz) [(g0, .inr (5, [.int (nI 0), .ref qD, .ref qT, .int (nI U), .int (pI le wl), .int wd, .ref qN, .ref qO, .ref qS, .ref qC, .ref qP, .ref qG, .ref qB, .ref qF, .ref qX])), (qF, .inl (cI, 16, .inl (aN bf)))] t) (va_A [(g0, .inr (5, [.int (nI th), .ref qD, .ref qT, .int (nI U), .int (pI le wl), .int wd, .ref qN, .ref qO, .ref qS, .ref qC, .ref qP, .ref qG, .ref qB, .ref qF, .ref qX])), (qF, .inl (cI, 16, .inl (aN bf)))] sz)) 0 0 (va_A [(g0, .inr (5, [.int (nI th), .ref qD, .ref qT, .int (nI U), .int (pI le wl), .int wd, .ref qN, .ref qO, .ref qS, .ref qC, .ref qP, .ref qG, .ref qB, .ref qF, .ref qX])), (qF, .inl (cI, 16, .inl (aN bf)))] sz) := by
  refine mk_mut (cc := cX5_buffer) (maxL := 5) (ret := (some .long)) (Qf := fun A => va_Ql (fun (r : Int64) (u : Unit) => r = bfM bf hh 8) (fun u t => qa dd A [(g0, .inr (5, [.int (nI 0), .ref qD, .ref qT, .int (nI U), .int (pI le wl), .int wd, .ref qN, .ref qO, .ref qS, .ref qC, .ref qP, .ref qG, .ref qB, .ref qF, .ref qX])), (qF, .inl (cI, 16, .inl (aN bf)))] t) A) (by decide) rfl (Nat.le_of_ble_eq_true rfl) ?_
  intro p e s m below meth c A hx hb hr hts hown hlocks hml hin hP hD hA hS hK ls hl
  have hown : s.vm.findClass RX5 = some m.cls := hown
  have hl : lv_has ls 5 [(0, .ref g0), (1, .int (nI hh))] := hl
  have hf_48 := hts (.fieldLink RX5 48 "RecordSystemModel" "thrown" "I") (by decide +kernel)
  have hin_X5 : ∀ w ∈ wsX50, w ∈ wsX5_buffer := by decide +kernel
  have hf_42 := hts (.fieldLink RX5 42 "RecordSystemModel" "buffer" "[I") (by decide +kernel)
  refine lv_aload_n hx hb dX5_buffer_0 rfl (lv_at hl 0 rfl) ?_
  refine lv_iload_n hx hb dX5_buffer_1 rfl (lv_at hl 1 rfl) ?_
  refine nr_if_lt (tgt := 10) hx hb (by omega) dX5_buffer_2 (by decide) ?_
  refine lv_iload_n hx hb dX5_buffer_5 rfl (lv_at hl 1 rfl) ?_
  refine lv_iconst (v := nI 1) hx hb dX5_buffer_6 (by decide) ?_
  refine nr_le (tgt := 14) hx hb (by omega) (by omega) dX5_buffer_7 (by decide) (fun c_7 => ?_) (fun c_7 => absurd c_7 (by omega))
  refine lv_iconst (v := nI 0) hx hb dX5_buffer_14 (by decide) ?_
  refine va_put (D := dd) (ci := 5) (v := .int (nI 0)) (ty := .int) (C := RX5) (T := TX5) (N := 15) hx hb hts hin_X5 tyX5 tyX5_ok nmX5 hown hK.1 hP hD hS 0 rfl rfl 0 (by decide) hf_48 (fun _ h9 => h9) rfl (by decide +kernel) rfl rfl (Nat.le_of_ble_eq_true rfl) dX5_buffer_15 (fun H locs hP hD hS => ?_)
  have hP : va_P dd vwCl [(g0, .inr (5, [.int (nI 0), .ref qD, .ref qT, .int (nI U), .int (pI le wl), .int wd, .ref qN, .ref qO, .ref qS, .ref qC, .ref qP, .ref qG, .ref qB, .ref qF, .ref qX])), (qF, .inl (cI, 16, .inl (aN bf)))] H := hP
  have hD : va_D A [(g0, .inr (5, [.int (nI 0), .ref qD, .ref qT, .int (nI U), .int (pI le wl), .int wd, .ref qN, .ref qO, .ref qS, .ref qC, .ref qP, .ref qG, .ref qB, .ref qF, .ref qX])), (qF, .inl (cI, 16, .inl (aN bf)))] := hD
  refine lv_lconst (v := 0) hx hb dX5_buffer_18 (by decide) ?_
  refine lv_lstore_n (lv' := [(2, .long 0), (0, .ref g0), (1, .int (nI hh))]) hx hb dX5_buffer_19 rfl hl (by decide) rfl (fun ls hl => ?_)
  refine lv_iconst (v := nI 0) hx hb dX5_buffer_20 (by decide) ?_
  refine lv_istore (lv' := [(4, .int (nI 0)), (2, .long 0), (0, .ref g0), (1, .int (nI hh))]) hx hb dX5_buffer_21 hl (by decide) rfl (fun ls hl => ?_)
  refine lv_iload hx hb dX5_buffer_23 (lv_at hl 0 rfl) ?_
  refine lv_bipush (v := nI 8) hx hb dX5_buffer_25 (by decide) ?_
  refine nr_ge (tgt := 65) hx hb (by omega) (by omega) dX5_buffer_27 (by decide) (fun c_27 => absurd c_27 (by omega)) (fun c_27 => ?_)
  refine lv_aload_n hx hb dX5_buffer_30 rfl (lv_at hl 2 rfl) ?_
  refine va_get (D := dd) (ci := 5) (v := .int (nI 0)) (C := RX5) (T := TX5) (N := 15) hx hb hts hin_X5 hown hK.1 hP 0 rfl rfl 0 (by decide) hf_48 (fun _ h9 => h9) rfl dX5_buffer_31 ?_
  refine nr_if_ne (tgt := 65) hx hb (by omega) dX5_buffer_34 (by decide) (fun c_34 => absurd c_34 (by omega)) (fun c_34 => ?_)
  refine lv_lload_n hx hb dX5_buffer_37 rfl (lv_at hl 1 rfl) ?_
  refine lv_aload_n hx hb dX5_buffer_38 rfl (lv_at hl 2 rfl) ?_
  refine va_get (D := dd) (ci := 5) (v := .ref qF) (C := RX5) (T := TX5) (N := 15) hx hb hts hin_X5 hown hK.1 hP 0 rfl rfl 13 (by decide) hf_42 (fun _ h9 => h9) rfl dX5_buffer_39 ?_
  refine lv_bipush (v := nI 8) hx hb dX5_buffer_42 (by decide) ?_
  refine lv_iload_n hx hb dX5_buffer_44 rfl (lv_at hl 3 rfl) ?_
  refine nr_imul (8 * hh) (by omega) hx hb dX5_buffer_45 ?_
  refine lv_iload hx hb dX5_buffer_46 (lv_at hl 0 rfl) ?_
  refine nr_iadd (8 * hh) (by omega) hx hb dX5_buffer_48 ?_
  refine nr_iald (f := bf) hx hb hK hP 1 rfl (by omega) (by decide) dX5_buffer_49 ?_
  refine lv_i2l (v := (nI (bf (8 * hh))).toInt64) hx hb dX5_buffer_50 rfl ?_
  refine lv_bipush (v := nI 8) hx hb dX5_buffer_51 (by decide) ?_
  refine lv_iload hx hb dX5_buffer_53 (lv_at hl 0 rfl) ?_
  refine nr_imul (0) (by omega) hx hb dX5_buffer_55 ?_
  refine lv_lshl (v := ((nI (bf (8 * hh))).toInt64) <<< ((nI 0).toInt64 &&& 63)) hx hb dX5_buffer_56 rfl ?_
  refine lv_lor hx hb dX5_buffer_57 ?_
  refine lv_lstore_n (lv' := [(2, .long (0 ||| (((nI (bf (8 * hh))).toInt64) <<< ((nI 0).toInt64 &&& 63)))), (4, .int (nI 0)), (0, .ref g0), (1, .int (nI hh))]) hx hb dX5_buffer_58 rfl hl (by decide) rfl (fun ls hl => ?_)
  refine lv_iinc (v := nI 1) (lv' := [(4, .int (nI 1)), (2, .long (0 ||| (((nI (bf (8 * hh))).toInt64) <<< ((nI 0).toInt64 &&& 63)))), (0, .ref g0), (1, .int (nI hh))]) hx hb dX5_buffer_59 hl (k := 1) rfl (nr_inc _ _ (by omega)) (by decide) rfl (fun ls hl => ?_)
  refine lv_goto (tgt := 23) hx hb dX5_buffer_62 (by decide) ?_
  refine lv_iload hx hb dX5_buffer_23 (lv_at hl 0 rfl) ?_
  refine lv_bipush (v := nI 8) hx hb dX5_buffer_25 (by decide) ?_
  refine nr_ge (tgt := 65) hx hb (by omega) (by omega) dX5_buffer_27 (by decide) (fun c_27 => absurd c_27 (by omega)) (fun c_27 => ?_)
  refine lv_aload_n hx hb dX5_buffer_30 rfl (lv_at hl 2 rfl) ?_
  refine va_get (D := dd) (ci := 5) (v := .int (nI 0)) (C := RX5) (T := TX5) (N := 15) hx hb hts hin_X5 hown hK.1 hP 0 rfl rfl 0 (by decide) hf_48 (fun _ h9 => h9) rfl dX5_buffer_31 ?_
  refine nr_if_ne (tgt := 65) hx hb (by omega) dX5_buffer_34 (by decide) (fun c_34 => absurd c_34 (by omega)) (fun c_34 => ?_)
  refine lv_lload_n hx hb dX5_buffer_37 rfl (lv_at hl 1 rfl) ?_
  refine lv_aload_n hx hb dX5_buffer_38 rfl (lv_at hl 2 rfl) ?_
  refine va_get (D := dd) (ci := 5) (v := .ref qF) (C := RX5) (T := TX5) (N := 15) hx hb hts hin_X5 hown hK.1 hP 0 rfl rfl 13 (by decide) hf_42 (fun _ h9 => h9) rfl dX5_buffer_39 ?_
  refine lv_bipush (v := nI 8) hx hb dX5_buffer_42 (by decide) ?_
  refine lv_iload_n hx hb dX5_buffer_44 rfl (lv_at hl 3 rfl) ?_
  refine nr_imul (8 * hh) (by omega) hx hb dX5_buffer_45 ?_
  refine lv_iload hx hb dX5_buffer_46 (lv_at hl 0 rfl) ?_
  refine nr_iadd (8 * hh + 1) (by omega) hx hb dX5_buffer_48 ?_
  refine nr_iald (f := bf) hx hb hK hP 1 rfl (by omega) (by decide) dX5_buffer_49 ?_
  refine lv_i2l (v := (nI (bf (8 * hh + 1))).toInt64) hx hb dX5_buffer_50 rfl ?_
  refine lv_bipush (v := nI 8) hx hb dX5_buffer_51 (by decide) ?_
  refine lv_iload hx hb dX5_buffer_53 (lv_at hl 0 rfl) ?_
  refine nr_imul (8) (by omega) hx hb dX5_buffer_55 ?_
  refine lv_lshl (v := ((nI (bf (8 * hh + 1))).toInt64) <<< ((nI 8).toInt64 &&& 63)) hx hb dX5_buffer_56 rfl ?_
  refine lv_lor hx hb dX5_buffer_57 ?_
  refine lv_lstore_n (lv' := [(2, .long ((0 ||| (((nI (bf (8 * hh))).toInt64) <<< ((nI 0).toInt64 &&& 63))) ||| (((nI (bf (8 * hh + 1))).toInt64) <<< ((nI 8).toInt64 &&& 63)))), (4, .int (nI 1)), (0, .ref g0), (1, .int (nI hh))]) hx hb dX5_buffer_58 rfl hl (by decide) rfl (fun ls hl => ?_)
  refine lv_iinc (v := nI 2) (lv' := [(4, .int (nI 2)), (2, .long ((0 ||| (((nI (bf (8 * hh))).toInt64) <<< ((nI 0).toInt64 &&& 63))) ||| (((nI (bf (8 * hh + 1))).toInt64) <<< ((nI 8).toInt64 &&& 63)))), (0, .ref g0), (1, .int (nI hh))]) hx hb dX5_buffer_59 hl (k := 1) rfl (nr_inc _ _ (by omega)) (by decide) rfl (fun ls hl => ?_)
  refine lv_goto (tgt := 23) hx hb dX5_buffer_62 (by decide) ?_
  refine lv_iload hx hb dX5_buffer_23 (lv_at hl 0 rfl) ?_
  refine lv_bipush (v := nI 8) hx hb dX5_buffer_25 (by decide) ?_
  refine nr_ge (tgt := 65) hx hb (by omega) (by omega) dX5_buffer_27 (by decide) (fun c_27 => absurd c_27 (by omega)) (fun c_27 => ?_)
  refine lv_aload_n hx hb dX5_buffer_30 rfl (lv_at hl 2 rfl) ?_
  refine va_get (D := dd) (ci := 5) (v := .int (nI 0)) (C := RX5) (T := TX5) (N := 15) hx hb hts hin_X5 hown hK.1 hP 0 rfl rfl 0 (by decide) hf_48 (fun _ h9 => h9) rfl dX5_buffer_31 ?_
  refine nr_if_ne (tgt := 65) hx hb (by omega) dX5_buffer_34 (by decide) (fun c_34 => absurd c_34 (by omega)) (fun c_34 => ?_)
  refine lv_lload_n hx hb dX5_buffer_37 rfl (lv_at hl 1 rfl) ?_
  refine lv_aload_n hx hb dX5_buffer_38 rfl (lv_at hl 2 rfl) ?_
  refine va_get (D := dd) (ci := 5) (v := .ref qF) (C := RX5) (T := TX5) (N := 15) hx hb hts hin_X5 hown hK.1 hP 0 rfl rfl 13 (by decide) hf_42 (fun _ h9 => h9) rfl dX5_buffer_39 ?_
  refine lv_bipush (v := nI 8) hx hb dX5_buffer_42 (by decide) ?_
  refine lv_iload_n hx hb dX5_buffer_44 rfl (lv_at hl 3 rfl) ?_
  refine nr_imul (8 * hh) (by omega) hx hb dX5_buffer_45 ?_
  refine lv_iload hx hb dX5_buffer_46 (lv_at hl 0 rfl) ?_
  refine nr_iadd (8 * hh + 2) (by omega) hx hb dX5_buffer_48 ?_
  refine nr_iald (f := bf) hx hb hK hP 1 rfl (by omega) (by decide) dX5_buffer_49 ?_
  refine lv_i2l (v := (nI (bf (8 * hh + 2))).toInt64) hx hb dX5_buffer_50 rfl ?_
  refine lv_bipush (v := nI 8) hx hb dX5_buffer_51 (by decide) ?_
  refine lv_iload hx hb dX5_buffer_53 (lv_at hl 0 rfl) ?_
  refine nr_imul (16) (by omega) hx hb dX5_buffer_55 ?_
  refine lv_lshl (v := ((nI (bf (8 * hh + 2))).toInt64) <<< ((nI 16).toInt64 &&& 63)) hx hb dX5_buffer_56 rfl ?_
  refine lv_lor hx hb dX5_buffer_57 ?_
  refine lv_lstore_n (lv' := [(2, .long (((0 ||| (((nI (bf (8 * hh))).toInt64) <<< ((nI 0).toInt64 &&& 63))) ||| (((nI (bf (8 * hh + 1))).toInt64) <<< ((nI 8).toInt64 &&& 63))) ||| (((nI (bf (8 * hh + 2))).toInt64) <<< ((nI 16).toInt64 &&& 63)))), (4, .int (nI 2)), (0, .ref g0), (1, .int (nI hh))]) hx hb dX5_buffer_58 rfl hl (by decide) rfl (fun ls hl => ?_)
  refine lv_iinc (v := nI 3) (lv' := [(4, .int (nI 3)), (2, .long (((0 ||| (((nI (bf (8 * hh))).toInt64) <<< ((nI 0).toInt64 &&& 63))) ||| (((nI (bf (8 * hh + 1))).toInt64) <<< ((nI 8).toInt64 &&& 63))) ||| (((nI (bf (8 * hh + 2))).toInt64) <<< ((nI 16).toInt64 &&& 63)))), (0, .ref g0), (1, .int (nI hh))]) hx hb dX5_buffer_59 hl (k := 1) rfl (nr_inc _ _ (by omega)) (by decide) rfl (fun ls hl => ?_)
  refine lv_goto (tgt := 23) hx hb dX5_buffer_62 (by decide) ?_
  refine lv_iload hx hb dX5_buffer_23 (lv_at hl 0 rfl) ?_
  refine lv_bipush (v := nI 8) hx hb dX5_buffer_25 (by decide) ?_
  refine nr_ge (tgt := 65) hx hb (by omega) (by omega) dX5_buffer_27 (by decide) (fun c_27 => absurd c_27 (by omega)) (fun c_27 => ?_)
  refine lv_aload_n hx hb dX5_buffer_30 rfl (lv_at hl 2 rfl) ?_
  refine va_get (D := dd) (ci := 5) (v := .int (nI 0)) (C := RX5) (T := TX5) (N := 15) hx hb hts hin_X5 hown hK.1 hP 0 rfl rfl 0 (by decide) hf_48 (fun _ h9 => h9) rfl dX5_buffer_31 ?_
  refine nr_if_ne (tgt := 65) hx hb (by omega) dX5_buffer_34 (by decide) (fun c_34 => absurd c_34 (by omega)) (fun c_34 => ?_)
  refine lv_lload_n hx hb dX5_buffer_37 rfl (lv_at hl 1 rfl) ?_
  refine lv_aload_n hx hb dX5_buffer_38 rfl (lv_at hl 2 rfl) ?_
  refine va_get (D := dd) (ci := 5) (v := .ref qF) (C := RX5) (T := TX5) (N := 15) hx hb hts hin_X5 hown hK.1 hP 0 rfl rfl 13 (by decide) hf_42 (fun _ h9 => h9) rfl dX5_buffer_39 ?_
  refine lv_bipush (v := nI 8) hx hb dX5_buffer_42 (by decide) ?_
  refine lv_iload_n hx hb dX5_buffer_44 rfl (lv_at hl 3 rfl) ?_
  refine nr_imul (8 * hh) (by omega) hx hb dX5_buffer_45 ?_
  refine lv_iload hx hb dX5_buffer_46 (lv_at hl 0 rfl) ?_
  refine nr_iadd (8 * hh + 3) (by omega) hx hb dX5_buffer_48 ?_
  refine nr_iald (f := bf) hx hb hK hP 1 rfl (by omega) (by decide) dX5_buffer_49 ?_
  refine lv_i2l (v := (nI (bf (8 * hh + 3))).toInt64) hx hb dX5_buffer_50 rfl ?_
  refine lv_bipush (v := nI 8) hx hb dX5_buffer_51 (by decide) ?_
  refine lv_iload hx hb dX5_buffer_53 (lv_at hl 0 rfl) ?_
  refine nr_imul (24) (by omega) hx hb dX5_buffer_55 ?_
  refine lv_lshl (v := ((nI (bf (8 * hh + 3))).toInt64) <<< ((nI 24).toInt64 &&& 63)) hx hb dX5_buffer_56 rfl ?_
  refine lv_lor hx hb dX5_buffer_57 ?_
  refine lv_lstore_n (lv' := [(2, .long ((((0 ||| (((nI (bf (8 * hh))).toInt64) <<< ((nI 0).toInt64 &&& 63))) ||| (((nI (bf (8 * hh + 1))).toInt64) <<< ((nI 8).toInt64 &&& 63))) ||| (((nI (bf (8 * hh + 2))).toInt64) <<< ((nI 16).toInt64 &&& 63))) ||| (((nI (bf (8 * hh + 3))).toInt64) <<< ((nI 24).toInt64 &&& 63)))), (4, .int (nI 3)), (0, .ref g0), (1, .int (nI hh))]) hx hb dX5_buffer_58 rfl hl (by decide) rfl (fun ls hl => ?_)
  refine lv_iinc (v := nI 4) (lv' := [(4, .int (nI 4)), (2, .long ((((0 ||| (((nI (bf (8 * hh))).toInt64) <<< ((nI 0).toInt64 &&& 63))) ||| (((nI (bf (8 * hh + 1))).toInt64) <<< ((nI 8).toInt64 &&& 63))) ||| (((nI (bf (8 * hh + 2))).toInt64) <<< ((nI 16).toInt64 &&& 63))) ||| (((nI (bf (8 * hh + 3))).toInt64) <<< ((nI 24).toInt64 &&& 63)))), (0, .ref g0), (1, .int (nI hh))]) hx hb dX5_buffer_59 hl (k := 1) rfl (nr_inc _ _ (by omega)) (by decide) rfl (fun ls hl => ?_)
  refine lv_goto (tgt := 23) hx hb dX5_buffer_62 (by decide) ?_
  refine lv_iload hx hb dX5_buffer_23 (lv_at hl 0 rfl) ?_
  refine lv_bipush (v := nI 8) hx hb dX5_buffer_25 (by decide) ?_
  refine nr_ge (tgt := 65) hx hb (by omega) (by omega) dX5_buffer_27 (by decide) (fun c_27 => absurd c_27 (by omega)) (fun c_27 => ?_)
  refine lv_aload_n hx hb dX5_buffer_30 rfl (lv_at hl 2 rfl) ?_
  refine va_get (D := dd) (ci := 5) (v := .int (nI 0)) (C := RX5) (T := TX5) (N := 15) hx hb hts hin_X5 hown hK.1 hP 0 rfl rfl 0 (by decide) hf_48 (fun _ h9 => h9) rfl dX5_buffer_31 ?_
  refine nr_if_ne (tgt := 65) hx hb (by omega) dX5_buffer_34 (by decide) (fun c_34 => absurd c_34 (by omega)) (fun c_34 => ?_)
  refine lv_lload_n hx hb dX5_buffer_37 rfl (lv_at hl 1 rfl) ?_
  refine lv_aload_n hx hb dX5_buffer_38 rfl (lv_at hl 2 rfl) ?_
  refine va_get (D := dd) (ci := 5) (v := .ref qF) (C := RX5) (T := TX5) (N := 15) hx hb hts hin_X5 hown hK.1 hP 0 rfl rfl 13 (by decide) hf_42 (fun _ h9 => h9) rfl dX5_buffer_39 ?_
  refine lv_bipush (v := nI 8) hx hb dX5_buffer_42 (by decide) ?_
  refine lv_iload_n hx hb dX5_buffer_44 rfl (lv_at hl 3 rfl) ?_
  refine nr_imul (8 * hh) (by omega) hx hb dX5_buffer_45 ?_
  refine lv_iload hx hb dX5_buffer_46 (lv_at hl 0 rfl) ?_
  refine nr_iadd (8 * hh + 4) (by omega) hx hb dX5_buffer_48 ?_
  refine nr_iald (f := bf) hx hb hK hP 1 rfl (by omega) (by decide) dX5_buffer_49 ?_
  refine lv_i2l (v := (nI (bf (8 * hh + 4))).toInt64) hx hb dX5_buffer_50 rfl ?_
  refine lv_bipush (v := nI 8) hx hb dX5_buffer_51 (by decide) ?_
  refine lv_iload hx hb dX5_buffer_53 (lv_at hl 0 rfl) ?_
  refine nr_imul (32) (by omega) hx hb dX5_buffer_55 ?_
  refine lv_lshl (v := ((nI (bf (8 * hh + 4))).toInt64) <<< ((nI 32).toInt64 &&& 63)) hx hb dX5_buffer_56 rfl ?_
  refine lv_lor hx hb dX5_buffer_57 ?_
  refine lv_lstore_n (lv' := [(2, .long (((((0 ||| (((nI (bf (8 * hh))).toInt64) <<< ((nI 0).toInt64 &&& 63))) ||| (((nI (bf (8 * hh + 1))).toInt64) <<< ((nI 8).toInt64 &&& 63))) ||| (((nI (bf (8 * hh + 2))).toInt64) <<< ((nI 16).toInt64 &&& 63))) ||| (((nI (bf (8 * hh + 3))).toInt64) <<< ((nI 24).toInt64 &&& 63))) ||| (((nI (bf (8 * hh + 4))).toInt64) <<< ((nI 32).toInt64 &&& 63)))), (4, .int (nI 4)), (0, .ref g0), (1, .int (nI hh))]) hx hb dX5_buffer_58 rfl hl (by decide) rfl (fun ls hl => ?_)
  refine lv_iinc (v := nI 5) (lv' := [(4, .int (nI 5)), (2, .long (((((0 ||| (((nI (bf (8 * hh))).toInt64) <<< ((nI 0).toInt64 &&& 63))) ||| (((nI (bf (8 * hh + 1))).toInt64) <<< ((nI 8).toInt64 &&& 63))) ||| (((nI (bf (8 * hh + 2))).toInt64) <<< ((nI 16).toInt64 &&& 63))) ||| (((nI (bf (8 * hh + 3))).toInt64) <<< ((nI 24).toInt64 &&& 63))) ||| (((nI (bf (8 * hh + 4))).toInt64) <<< ((nI 32).toInt64 &&& 63)))), (0, .ref g0), (1, .int (nI hh))]) hx hb dX5_buffer_59 hl (k := 1) rfl (nr_inc _ _ (by omega)) (by decide) rfl (fun ls hl => ?_)
  refine lv_goto (tgt := 23) hx hb dX5_buffer_62 (by decide) ?_
  refine lv_iload hx hb dX5_buffer_23 (lv_at hl 0 rfl) ?_
  refine lv_bipush (v := nI 8) hx hb dX5_buffer_25 (by decide) ?_
  refine nr_ge (tgt := 65) hx hb (by omega) (by omega) dX5_buffer_27 (by decide) (fun c_27 => absurd c_27 (by omega)) (fun c_27 => ?_)
  refine lv_aload_n hx hb dX5_buffer_30 rfl (lv_at hl 2 rfl) ?_
  refine va_get (D := dd) (ci := 5) (v := .int (nI 0)) (C := RX5) (T := TX5) (N := 15) hx hb hts hin_X5 hown hK.1 hP 0 rfl rfl 0 (by decide) hf_48 (fun _ h9 => h9) rfl dX5_buffer_31 ?_
  refine nr_if_ne (tgt := 65) hx hb (by omega) dX5_buffer_34 (by decide) (fun c_34 => absurd c_34 (by omega)) (fun c_34 => ?_)
  refine lv_lload_n hx hb dX5_buffer_37 rfl (lv_at hl 1 rfl) ?_
  refine lv_aload_n hx hb dX5_buffer_38 rfl (lv_at hl 2 rfl) ?_
  refine va_get (D := dd) (ci := 5) (v := .ref qF) (C := RX5) (T := TX5) (N := 15) hx hb hts hin_X5 hown hK.1 hP 0 rfl rfl 13 (by decide) hf_42 (fun _ h9 => h9) rfl dX5_buffer_39 ?_
  refine lv_bipush (v := nI 8) hx hb dX5_buffer_42 (by decide) ?_
  refine lv_iload_n hx hb dX5_buffer_44 rfl (lv_at hl 3 rfl) ?_
  refine nr_imul (8 * hh) (by omega) hx hb dX5_buffer_45 ?_
  refine lv_iload hx hb dX5_buffer_46 (lv_at hl 0 rfl) ?_
  refine nr_iadd (8 * hh + 5) (by omega) hx hb dX5_buffer_48 ?_
  refine nr_iald (f := bf) hx hb hK hP 1 rfl (by omega) (by decide) dX5_buffer_49 ?_
  refine lv_i2l (v := (nI (bf (8 * hh + 5))).toInt64) hx hb dX5_buffer_50 rfl ?_
  refine lv_bipush (v := nI 8) hx hb dX5_buffer_51 (by decide) ?_
  refine lv_iload hx hb dX5_buffer_53 (lv_at hl 0 rfl) ?_
  refine nr_imul (40) (by omega) hx hb dX5_buffer_55 ?_
  refine lv_lshl (v := ((nI (bf (8 * hh + 5))).toInt64) <<< ((nI 40).toInt64 &&& 63)) hx hb dX5_buffer_56 rfl ?_
  refine lv_lor hx hb dX5_buffer_57 ?_
  refine lv_lstore_n (lv' := [(2, .long ((((((0 ||| (((nI (bf (8 * hh))).toInt64) <<< ((nI 0).toInt64 &&& 63))) ||| (((nI (bf (8 * hh + 1))).toInt64) <<< ((nI 8).toInt64 &&& 63))) ||| (((nI (bf (8 * hh + 2))).toInt64) <<< ((nI 16).toInt64 &&& 63))) ||| (((nI (bf (8 * hh + 3))).toInt64) <<< ((nI 24).toInt64 &&& 63))) ||| (((nI (bf (8 * hh + 4))).toInt64) <<< ((nI 32).toInt64 &&& 63))) ||| (((nI (bf (8 * hh + 5))).toInt64) <<< ((nI 40).toInt64 &&& 63)))), (4, .int (nI 5)), (0, .ref g0), (1, .int (nI hh))]) hx hb dX5_buffer_58 rfl hl (by decide) rfl (fun ls hl => ?_)
  refine lv_iinc (v := nI 6) (lv' := [(4, .int (nI 6)), (2, .long ((((((0 ||| (((nI (bf (8 * hh))).toInt64) <<< ((nI 0).toInt64 &&& 63))) ||| (((nI (bf (8 * hh + 1))).toInt64) <<< ((nI 8).toInt64 &&& 63))) ||| (((nI (bf (8 * hh + 2))).toInt64) <<< ((nI 16).toInt64 &&& 63))) ||| (((nI (bf (8 * hh + 3))).toInt64) <<< ((nI 24).toInt64 &&& 63))) ||| (((nI (bf (8 * hh + 4))).toInt64) <<< ((nI 32).toInt64 &&& 63))) ||| (((nI (bf (8 * hh + 5))).toInt64) <<< ((nI 40).toInt64 &&& 63)))), (0, .ref g0), (1, .int (nI hh))]) hx hb dX5_buffer_59 hl (k := 1) rfl (nr_inc _ _ (by omega)) (by decide) rfl (fun ls hl => ?_)
  refine lv_goto (tgt := 23) hx hb dX5_buffer_62 (by decide) ?_
  refine lv_iload hx hb dX5_buffer_23 (lv_at hl 0 rfl) ?_
  refine lv_bipush (v := nI 8) hx hb dX5_buffer_25 (by decide) ?_
  refine nr_ge (tgt := 65) hx hb (by omega) (by omega) dX5_buffer_27 (by decide) (fun c_27 => absurd c_27 (by omega)) (fun c_27 => ?_)
  refine lv_aload_n hx hb dX5_buffer_30 rfl (lv_at hl 2 rfl) ?_
  refine va_get (D := dd) (ci := 5) (v := .int (nI 0)) (C := RX5) (T := TX5) (N := 15) hx hb hts hin_X5 hown hK.1 hP 0 rfl rfl 0 (by decide) hf_48 (fun _ h9 => h9) rfl dX5_buffer_31 ?_
  refine nr_if_ne (tgt := 65) hx hb (by omega) dX5_buffer_34 (by decide) (fun c_34 => absurd c_34 (by omega)) (fun c_34 => ?_)
  refine lv_lload_n hx hb dX5_buffer_37 rfl (lv_at hl 1 rfl) ?_
  refine lv_aload_n hx hb dX5_buffer_38 rfl (lv_at hl 2 rfl) ?_
  refine va_get (D := dd) (ci := 5) (v := .ref qF) (C := RX5) (T := TX5) (N := 15) hx hb hts hin_X5 hown hK.1 hP 0 rfl rfl 13 (by decide) hf_42 (fun _ h9 => h9) rfl dX5_buffer_39 ?_
  refine lv_bipush (v := nI 8) hx hb dX5_buffer_42 (by decide) ?_
  refine lv_iload_n hx hb dX5_buffer_44 rfl (lv_at hl 3 rfl) ?_
  refine nr_imul (8 * hh) (by omega) hx hb dX5_buffer_45 ?_
  refine lv_iload hx hb dX5_buffer_46 (lv_at hl 0 rfl) ?_
  refine nr_iadd (8 * hh + 6) (by omega) hx hb dX5_buffer_48 ?_
  refine nr_iald (f := bf) hx hb hK hP 1 rfl (by omega) (by decide) dX5_buffer_49 ?_
  refine lv_i2l (v := (nI (bf (8 * hh + 6))).toInt64) hx hb dX5_buffer_50 rfl ?_
  refine lv_bipush (v := nI 8) hx hb dX5_buffer_51 (by decide) ?_
  refine lv_iload hx hb dX5_buffer_53 (lv_at hl 0 rfl) ?_
  refine nr_imul (48) (by omega) hx hb dX5_buffer_55 ?_
  refine lv_lshl (v := ((nI (bf (8 * hh + 6))).toInt64) <<< ((nI 48).toInt64 &&& 63)) hx hb dX5_buffer_56 rfl ?_
  refine lv_lor hx hb dX5_buffer_57 ?_
  refine lv_lstore_n (lv' := [(2, .long (((((((0 ||| (((nI (bf (8 * hh))).toInt64) <<< ((nI 0).toInt64 &&& 63))) ||| (((nI (bf (8 * hh + 1))).toInt64) <<< ((nI 8).toInt64 &&& 63))) ||| (((nI (bf (8 * hh + 2))).toInt64) <<< ((nI 16).toInt64 &&& 63))) ||| (((nI (bf (8 * hh + 3))).toInt64) <<< ((nI 24).toInt64 &&& 63))) ||| (((nI (bf (8 * hh + 4))).toInt64) <<< ((nI 32).toInt64 &&& 63))) ||| (((nI (bf (8 * hh + 5))).toInt64) <<< ((nI 40).toInt64 &&& 63))) ||| (((nI (bf (8 * hh + 6))).toInt64) <<< ((nI 48).toInt64 &&& 63)))), (4, .int (nI 6)), (0, .ref g0), (1, .int (nI hh))]) hx hb dX5_buffer_58 rfl hl (by decide) rfl (fun ls hl => ?_)
  refine lv_iinc (v := nI 7) (lv' := [(4, .int (nI 7)), (2, .long (((((((0 ||| (((nI (bf (8 * hh))).toInt64) <<< ((nI 0).toInt64 &&& 63))) ||| (((nI (bf (8 * hh + 1))).toInt64) <<< ((nI 8).toInt64 &&& 63))) ||| (((nI (bf (8 * hh + 2))).toInt64) <<< ((nI 16).toInt64 &&& 63))) ||| (((nI (bf (8 * hh + 3))).toInt64) <<< ((nI 24).toInt64 &&& 63))) ||| (((nI (bf (8 * hh + 4))).toInt64) <<< ((nI 32).toInt64 &&& 63))) ||| (((nI (bf (8 * hh + 5))).toInt64) <<< ((nI 40).toInt64 &&& 63))) ||| (((nI (bf (8 * hh + 6))).toInt64) <<< ((nI 48).toInt64 &&& 63)))), (0, .ref g0), (1, .int (nI hh))]) hx hb dX5_buffer_59 hl (k := 1) rfl (nr_inc _ _ (by omega)) (by decide) rfl (fun ls hl => ?_)
  refine lv_goto (tgt := 23) hx hb dX5_buffer_62 (by decide) ?_
  refine lv_iload hx hb dX5_buffer_23 (lv_at hl 0 rfl) ?_
  refine lv_bipush (v := nI 8) hx hb dX5_buffer_25 (by decide) ?_
  refine nr_ge (tgt := 65) hx hb (by omega) (by omega) dX5_buffer_27 (by decide) (fun c_27 => absurd c_27 (by omega)) (fun c_27 => ?_)
  refine lv_aload_n hx hb dX5_buffer_30 rfl (lv_at hl 2 rfl) ?_
  refine va_get (D := dd) (ci := 5) (v := .int (nI 0)) (C := RX5) (T := TX5) (N := 15) hx hb hts hin_X5 hown hK.1 hP 0 rfl rfl 0 (by decide) hf_48 (fun _ h9 => h9) rfl dX5_buffer_31 ?_
  refine nr_if_ne (tgt := 65) hx hb (by omega) dX5_buffer_34 (by decide) (fun c_34 => absurd c_34 (by omega)) (fun c_34 => ?_)
  refine lv_lload_n hx hb dX5_buffer_37 rfl (lv_at hl 1 rfl) ?_
  refine lv_aload_n hx hb dX5_buffer_38 rfl (lv_at hl 2 rfl) ?_
  refine va_get (D := dd) (ci := 5) (v := .ref qF) (C := RX5) (T := TX5) (N := 15) hx hb hts hin_X5 hown hK.1 hP 0 rfl rfl 13 (by decide) hf_42 (fun _ h9 => h9) rfl dX5_buffer_39 ?_
  refine lv_bipush (v := nI 8) hx hb dX5_buffer_42 (by decide) ?_
  refine lv_iload_n hx hb dX5_buffer_44 rfl (lv_at hl 3 rfl) ?_
  refine nr_imul (8 * hh) (by omega) hx hb dX5_buffer_45 ?_
  refine lv_iload hx hb dX5_buffer_46 (lv_at hl 0 rfl) ?_
  refine nr_iadd (8 * hh + 7) (by omega) hx hb dX5_buffer_48 ?_
  refine nr_iald (f := bf) hx hb hK hP 1 rfl (by omega) (by decide) dX5_buffer_49 ?_
  refine lv_i2l (v := (nI (bf (8 * hh + 7))).toInt64) hx hb dX5_buffer_50 rfl ?_
  refine lv_bipush (v := nI 8) hx hb dX5_buffer_51 (by decide) ?_
  refine lv_iload hx hb dX5_buffer_53 (lv_at hl 0 rfl) ?_
  refine nr_imul (56) (by omega) hx hb dX5_buffer_55 ?_
  refine lv_lshl (v := ((nI (bf (8 * hh + 7))).toInt64) <<< ((nI 56).toInt64 &&& 63)) hx hb dX5_buffer_56 rfl ?_
  refine lv_lor hx hb dX5_buffer_57 ?_
  refine lv_lstore_n (lv' := [(2, .long ((((((((0 ||| (((nI (bf (8 * hh))).toInt64) <<< ((nI 0).toInt64 &&& 63))) ||| (((nI (bf (8 * hh + 1))).toInt64) <<< ((nI 8).toInt64 &&& 63))) ||| (((nI (bf (8 * hh + 2))).toInt64) <<< ((nI 16).toInt64 &&& 63))) ||| (((nI (bf (8 * hh + 3))).toInt64) <<< ((nI 24).toInt64 &&& 63))) ||| (((nI (bf (8 * hh + 4))).toInt64) <<< ((nI 32).toInt64 &&& 63))) ||| (((nI (bf (8 * hh + 5))).toInt64) <<< ((nI 40).toInt64 &&& 63))) ||| (((nI (bf (8 * hh + 6))).toInt64) <<< ((nI 48).toInt64 &&& 63))) ||| (((nI (bf (8 * hh + 7))).toInt64) <<< ((nI 56).toInt64 &&& 63)))), (4, .int (nI 7)), (0, .ref g0), (1, .int (nI hh))]) hx hb dX5_buffer_58 rfl hl (by decide) rfl (fun ls hl => ?_)
  refine lv_iinc (v := nI 8) (lv' := [(4, .int (nI 8)), (2, .long ((((((((0 ||| (((nI (bf (8 * hh))).toInt64) <<< ((nI 0).toInt64 &&& 63))) ||| (((nI (bf (8 * hh + 1))).toInt64) <<< ((nI 8).toInt64 &&& 63))) ||| (((nI (bf (8 * hh + 2))).toInt64) <<< ((nI 16).toInt64 &&& 63))) ||| (((nI (bf (8 * hh + 3))).toInt64) <<< ((nI 24).toInt64 &&& 63))) ||| (((nI (bf (8 * hh + 4))).toInt64) <<< ((nI 32).toInt64 &&& 63))) ||| (((nI (bf (8 * hh + 5))).toInt64) <<< ((nI 40).toInt64 &&& 63))) ||| (((nI (bf (8 * hh + 6))).toInt64) <<< ((nI 48).toInt64 &&& 63))) ||| (((nI (bf (8 * hh + 7))).toInt64) <<< ((nI 56).toInt64 &&& 63)))), (0, .ref g0), (1, .int (nI hh))]) hx hb dX5_buffer_59 hl (k := 1) rfl (nr_inc _ _ (by omega)) (by decide) rfl (fun ls hl => ?_)
  refine lv_goto (tgt := 23) hx hb dX5_buffer_62 (by decide) ?_
  refine lv_iload hx hb dX5_buffer_23 (lv_at hl 0 rfl) ?_
  refine lv_bipush (v := nI 8) hx hb dX5_buffer_25 (by decide) ?_
  refine nr_ge (tgt := 65) hx hb (by omega) (by omega) dX5_buffer_27 (by decide) (fun c_27 => ?_) (fun c_27 => absurd c_27 (by omega))
  refine lv_lload_n hx hb dX5_buffer_65 rfl (lv_at hl 1 rfl) ?_
  have hP9 := hP.sub (ws' := [(g0, .inr (5, [.int (nI 0), .ref qD, .ref qT, .int (nI U), .int (pI le wl), .int wd, .ref qN, .ref qO, .ref qS, .ref qC, .ref qP, .ref qG, .ref qB, .ref qF, .ref qX])), (qF, .inl (cI, 16, .inl (aN bf)))]) [0, 1] rfl
  have hD9 := hD.sub (ws' := [(g0, .inr (5, [.int (nI 0), .ref qD, .ref qT, .int (nI U), .int (pI le wl), .int wd, .ref qN, .ref qO, .ref qS, .ref qC, .ref qP, .ref qG, .ref qB, .ref qF, .ref qX])), (qF, .inl (cI, 16, .inl (aN bf)))]) [0, 1] (by decide) rfl
  exact W.lret (v := ((((((((0 ||| (((nI (bf (8 * hh))).toInt64) <<< ((nI 0).toInt64 &&& 63))) ||| (((nI (bf (8 * hh + 1))).toInt64) <<< ((nI 8).toInt64 &&& 63))) ||| (((nI (bf (8 * hh + 2))).toInt64) <<< ((nI 16).toInt64 &&& 63))) ||| (((nI (bf (8 * hh + 3))).toInt64) <<< ((nI 24).toInt64 &&& 63))) ||| (((nI (bf (8 * hh + 4))).toInt64) <<< ((nI 32).toInt64 &&& 63))) ||| (((nI (bf (8 * hh + 5))).toInt64) <<< ((nI 40).toInt64 &&& 63))) ||| (((nI (bf (8 * hh + 6))).toInt64) <<< ((nI 48).toInt64 &&& 63))) ||| (((nI (bf (8 * hh + 7))).toInt64) <<< ((nI 56).toInt64 &&& 63)))) hx hb hr (fun t ht hW => ⟨⟨((((((((0 ||| (((nI (bf (8 * hh))).toInt64) <<< ((nI 0).toInt64 &&& 63))) ||| (((nI (bf (8 * hh + 1))).toInt64) <<< ((nI 8).toInt64 &&& 63))) ||| (((nI (bf (8 * hh + 2))).toInt64) <<< ((nI 16).toInt64 &&& 63))) ||| (((nI (bf (8 * hh + 3))).toInt64) <<< ((nI 24).toInt64 &&& 63))) ||| (((nI (bf (8 * hh + 4))).toInt64) <<< ((nI 32).toInt64 &&& 63))) ||| (((nI (bf (8 * hh + 5))).toInt64) <<< ((nI 40).toInt64 &&& 63))) ||| (((nI (bf (8 * hh + 6))).toInt64) <<< ((nI 48).toInt64 &&& 63))) ||| (((nI (bf (8 * hh + 7))).toInt64) <<< ((nI 56).toInt64 &&& 63))), (), rfl, rfl, by rw [ht]; exact hP9, hD9⟩, hS.F ht⟩) hS.2.2 dX5_buffer_66

set_option maxHeartbeats 4000000 in
set_option maxRecDepth 100000 in
theorem kX5_disk (l : Launch) (dd : va_G) (cI cZ cR cJ : ClassId) (g0 : Nat) (th : Nat) (U : Nat) (le : Bool) (wl : Nat) (wd : Int32) (qD : Nat) (qT : Nat) (qN : Nat) (qO : Nat) (qS : Nat) (qC : Nat) (qP : Nat) (qG : Nat) (qB : Nat) (qF : Nat) (qX : Nat) (D : Nat → Nat) (i : Nat) (sz : Nat) (hi : i < 4096) : Met l yX5_disk wsX5_disk ({ frames := 0, cells := 0, slots := 0, locals := 0 }) (va_Pc [.ref g0, .int (nI i)] (qm dd cI cZ cR cJ sz [(g0, .inr (5, [.int (nI th), .ref qD, .ref qT, .int (nI U), .int (pI le wl), .int wd, .ref qN, .ref qO, .ref qS, .ref qC, .ref qP, .ref qG, .ref qB, .ref qF, .ref qX])), (qD, .inl (cI, 4096, .inl (aN D)))])) (va_Qi (fun (r : Int32) (u : Unit) => r = nI (D i)) (fun u t => qa dd (va_A [(g0, .inr (5, [.int (nI th), .ref qD, .ref qT, .int (nI U), .int (pI le wl), .int wd, .ref qN, .ref qO, .ref qS, .ref qC, .ref qP, .ref qG, .ref qB, .ref qF, .ref qX])), (qD, .inl (cI, 4096, .inl (aN D)))] sz) [(g0, .inr (5, [.int (nI 0), .ref qD, .ref qT, .int (nI U), .int (pI le wl), .int wd, .ref qN, .ref qO, .ref qS, .ref qC, .ref qP, .ref qG, .ref qB, .ref qF, .ref qX])), (qD, .inl (cI, 4096, .inl (aN D)))] t) (va_A [(g0, .inr (5, [.int (nI th), .ref qD, .ref qT, .int (nI U), .int (pI le wl), .int wd, .ref qN, .ref qO, .ref qS, .ref qC, .ref qP, .ref qG, .ref qB, .ref qF, .ref qX])), (qD, .inl (cI, 4096, .inl (aN D)))] sz)) 0 0 (va_A [(g0, .inr (5, [.int (nI th), .ref qD, .ref qT, .int (nI U), .int (pI le wl), .int wd, .ref qN, .ref qO, .ref qS, .ref qC, .ref qP, .ref qG, .ref qB, .ref qF, .ref qX])), (qD, .inl (cI, 4096, .inl (aN D)))] sz) := by
  refine mk_mut (cc := cX5_disk) (maxL := 2) (ret := (some .int)) (Qf := fun A => va_Qi (fun (r : Int32) (u : Unit) => r = nI (D i)) (fun u t => qa dd A [(g0, .inr (5, [.int (nI 0), .ref qD, .ref qT, .int (nI U), .int (pI le wl), .int wd, .ref qN, .ref qO, .ref qS, .ref qC, .ref qP, .ref qG, .ref qB, .ref qF, .ref qX])), (qD, .inl (cI, 4096, .inl (aN D)))] t) A) (by decide) rfl (Nat.le_of_ble_eq_true rfl) ?_
  intro p e s m below meth c A hx hb hr hts hown hlocks hml hin hP hD hA hS hK ls hl
  have hown : s.vm.findClass RX5 = some m.cls := hown
  have hl : lv_has ls 2 [(0, .ref g0), (1, .int (nI i))] := hl
  have hf_48 := hts (.fieldLink RX5 48 "RecordSystemModel" "thrown" "I") (by decide +kernel)
  have hin_X5 : ∀ w ∈ wsX50, w ∈ wsX5_disk := by decide +kernel
  have hf_7 := hts (.fieldLink RX5 7 "RecordSystemModel" "disk" "[I") (by decide +kernel)
  refine lv_aload_n hx hb dX5_disk_0 rfl (lv_at hl 0 rfl) ?_
  refine lv_iload_n hx hb dX5_disk_1 rfl (lv_at hl 1 rfl) ?_
  refine nr_if_lt (tgt := 12) hx hb (by omega) dX5_disk_2 (by decide) ?_
  refine lv_iload_n hx hb dX5_disk_5 rfl (lv_at hl 1 rfl) ?_
  refine lv_sipush (v := nI 4095) hx hb dX5_disk_6 (by decide) ?_
  refine nr_le (tgt := 16) hx hb (by omega) (by omega) dX5_disk_9 (by decide) (fun c_9 => ?_) (fun c_9 => absurd c_9 (by omega))
  refine lv_iconst (v := nI 0) hx hb dX5_disk_16 (by decide) ?_
  refine va_put (D := dd) (ci := 5) (v := .int (nI 0)) (ty := .int) (C := RX5) (T := TX5) (N := 15) hx hb hts hin_X5 tyX5 tyX5_ok nmX5 hown hK.1 hP hD hS 0 rfl rfl 0 (by decide) hf_48 (fun _ h9 => h9) rfl (by decide +kernel) rfl rfl (Nat.le_of_ble_eq_true rfl) dX5_disk_17 (fun H locs hP hD hS => ?_)
  have hP : va_P dd vwCl [(g0, .inr (5, [.int (nI 0), .ref qD, .ref qT, .int (nI U), .int (pI le wl), .int wd, .ref qN, .ref qO, .ref qS, .ref qC, .ref qP, .ref qG, .ref qB, .ref qF, .ref qX])), (qD, .inl (cI, 4096, .inl (aN D)))] H := hP
  have hD : va_D A [(g0, .inr (5, [.int (nI 0), .ref qD, .ref qT, .int (nI U), .int (pI le wl), .int wd, .ref qN, .ref qO, .ref qS, .ref qC, .ref qP, .ref qG, .ref qB, .ref qF, .ref qX])), (qD, .inl (cI, 4096, .inl (aN D)))] := hD
  refine lv_aload_n hx hb dX5_disk_20 rfl (lv_at hl 0 rfl) ?_
  refine va_get (D := dd) (ci := 5) (v := .int (nI 0)) (C := RX5) (T := TX5) (N := 15) hx hb hts hin_X5 hown hK.1 hP 0 rfl rfl 0 (by decide) hf_48 (fun _ h9 => h9) rfl dX5_disk_21 ?_
  refine nr_if_le (tgt := 31) hx hb (by omega) dX5_disk_24 (by decide) (fun c_24 => ?_) (fun c_24 => absurd c_24 (by omega))
  refine lv_aload_n hx hb dX5_disk_31 rfl (lv_at hl 0 rfl) ?_
  refine va_get (D := dd) (ci := 5) (v := .ref qD) (C := RX5) (T := TX5) (N := 15) hx hb hts hin_X5 hown hK.1 hP 0 rfl rfl 1 (by decide) hf_7 (fun _ h9 => h9) rfl dX5_disk_32 ?_
  refine lv_iload_n hx hb dX5_disk_35 rfl (lv_at hl 1 rfl) ?_
  refine nr_iald (f := D) hx hb hK hP 1 rfl (by omega) (by decide) dX5_disk_36 ?_
  have hP9 := hP.sub (ws' := [(g0, .inr (5, [.int (nI 0), .ref qD, .ref qT, .int (nI U), .int (pI le wl), .int wd, .ref qN, .ref qO, .ref qS, .ref qC, .ref qP, .ref qG, .ref qB, .ref qF, .ref qX])), (qD, .inl (cI, 4096, .inl (aN D)))]) [0, 1] rfl
  have hD9 := hD.sub (ws' := [(g0, .inr (5, [.int (nI 0), .ref qD, .ref qT, .int (nI U), .int (pI le wl), .int wd, .ref qN, .ref qO, .ref qS, .ref qC, .ref qP, .ref qG, .ref qB, .ref qF, .ref qX])), (qD, .inl (cI, 4096, .inl (aN D)))]) [0, 1] (by decide) rfl
  exact W.iret (v := nI (D i)) hx hb hr (fun t ht hW => ⟨⟨nI (D i), (), rfl, rfl, by rw [ht]; exact hP9, hD9⟩, hS.F ht⟩) hS.2.2 dX5_disk_37

set_option maxHeartbeats 4000000 in
set_option maxRecDepth 100000 in
theorem kX5_spoil (l : Launch) (dd : va_G) (cI cZ cR cJ : ClassId) (g0 : Nat) (th : Nat) (U : Nat) (le : Bool) (wl : Nat) (wd : Int32) (qD : Nat) (qT : Nat) (qN : Nat) (qO : Nat) (qS : Nat) (qC : Nat) (qP : Nat) (qG : Nat) (qB : Nat) (qF : Nat) (qX : Nat) (D : Nat → Nat) (i : Nat) (v : Nat) (sz : Nat) (hi : i < 4096) (hv : v ≤ 255) : Met l yX5_spoil wsX5_spoil ({ frames := 0, cells := 0, slots := 0, locals := 0 }) (va_Pc [.ref g0, .int (nI i), .int (nI v)] (qm dd cI cZ cR cJ sz [(g0, .inr (5, [.int (nI th), .ref qD, .ref qT, .int (nI U), .int (pI le wl), .int wd, .ref qN, .ref qO, .ref qS, .ref qC, .ref qP, .ref qG, .ref qB, .ref qF, .ref qX])), (qD, .inl (cI, 4096, .inl (aN D)))])) (va_Qv (fun u : Unit => True) (fun u t => qa dd (va_A [(g0, .inr (5, [.int (nI th), .ref qD, .ref qT, .int (nI U), .int (pI le wl), .int wd, .ref qN, .ref qO, .ref qS, .ref qC, .ref qP, .ref qG, .ref qB, .ref qF, .ref qX])), (qD, .inl (cI, 4096, .inl (aN D)))] sz) [(g0, .inr (5, [.int (nI 0), .ref qD, .ref qT, .int (nI U), .int (pI le wl), .int wd, .ref qN, .ref qO, .ref qS, .ref qC, .ref qP, .ref qG, .ref qB, .ref qF, .ref qX])), (qD, .inl (cI, 4096, .inl (aN (va_up D i v))))] t) (va_A [(g0, .inr (5, [.int (nI th), .ref qD, .ref qT, .int (nI U), .int (pI le wl), .int wd, .ref qN, .ref qO, .ref qS, .ref qC, .ref qP, .ref qG, .ref qB, .ref qF, .ref qX])), (qD, .inl (cI, 4096, .inl (aN D)))] sz)) 0 0 (va_A [(g0, .inr (5, [.int (nI th), .ref qD, .ref qT, .int (nI U), .int (pI le wl), .int wd, .ref qN, .ref qO, .ref qS, .ref qC, .ref qP, .ref qG, .ref qB, .ref qF, .ref qX])), (qD, .inl (cI, 4096, .inl (aN D)))] sz) := by
  refine mk_mut (cc := cX5_spoil) (maxL := 3) (ret := none) (Qf := fun A => va_Qv (fun u : Unit => True) (fun u t => qa dd A [(g0, .inr (5, [.int (nI 0), .ref qD, .ref qT, .int (nI U), .int (pI le wl), .int wd, .ref qN, .ref qO, .ref qS, .ref qC, .ref qP, .ref qG, .ref qB, .ref qF, .ref qX])), (qD, .inl (cI, 4096, .inl (aN (va_up D i v))))] t) A) (by decide) rfl (Nat.le_of_ble_eq_true rfl) ?_
  intro p e s m below meth c A hx hb hr hts hown hlocks hml hin hP hD hA hS hK ls hl
  have hown : s.vm.findClass RX5 = some m.cls := hown
  have hl : lv_has ls 3 [(0, .ref g0), (1, .int (nI i)), (2, .int (nI v))] := hl
  have hf_48 := hts (.fieldLink RX5 48 "RecordSystemModel" "thrown" "I") (by decide +kernel)
  have hin_X5 : ∀ w ∈ wsX50, w ∈ wsX5_spoil := by decide +kernel
  have hf_7 := hts (.fieldLink RX5 7 "RecordSystemModel" "disk" "[I") (by decide +kernel)
  refine lv_aload_n hx hb dX5_spoil_0 rfl (lv_at hl 0 rfl) ?_
  refine lv_iload_n hx hb dX5_spoil_1 rfl (lv_at hl 1 rfl) ?_
  refine nr_if_lt (tgt := 12) hx hb (by omega) dX5_spoil_2 (by decide) ?_
  refine lv_iload_n hx hb dX5_spoil_5 rfl (lv_at hl 1 rfl) ?_
  refine lv_sipush (v := nI 4095) hx hb dX5_spoil_6 (by decide) ?_
  refine nr_le (tgt := 16) hx hb (by omega) (by omega) dX5_spoil_9 (by decide) (fun c_9 => ?_) (fun c_9 => absurd c_9 (by omega))
  refine lv_iload_n hx hb dX5_spoil_16 rfl (lv_at hl 2 rfl) ?_
  refine nr_if_lt (tgt := 27) hx hb (by omega) dX5_spoil_17 (by decide) ?_
  refine lv_iload_n hx hb dX5_spoil_20 rfl (lv_at hl 2 rfl) ?_
  refine lv_sipush (v := nI 255) hx hb dX5_spoil_21 (by decide) ?_
  refine nr_le (tgt := 31) hx hb (by omega) (by omega) dX5_spoil_24 (by decide) (fun c_24 => ?_) (fun c_24 => absurd c_24 (by omega))
  refine lv_iconst (v := nI 0) hx hb dX5_spoil_31 (by decide) ?_
  refine va_put (D := dd) (ci := 5) (v := .int (nI 0)) (ty := .int) (C := RX5) (T := TX5) (N := 15) hx hb hts hin_X5 tyX5 tyX5_ok nmX5 hown hK.1 hP hD hS 0 rfl rfl 0 (by decide) hf_48 (fun _ h9 => h9) rfl (by decide +kernel) rfl rfl (Nat.le_of_ble_eq_true rfl) dX5_spoil_32 (fun H locs hP hD hS => ?_)
  have hP : va_P dd vwCl [(g0, .inr (5, [.int (nI 0), .ref qD, .ref qT, .int (nI U), .int (pI le wl), .int wd, .ref qN, .ref qO, .ref qS, .ref qC, .ref qP, .ref qG, .ref qB, .ref qF, .ref qX])), (qD, .inl (cI, 4096, .inl (aN D)))] H := hP
  have hD : va_D A [(g0, .inr (5, [.int (nI 0), .ref qD, .ref qT, .int (nI U), .int (pI le wl), .int wd, .ref qN, .ref qO, .ref qS, .ref qC, .ref qP, .ref qG, .ref qB, .ref qF, .ref qX])), (qD, .inl (cI, 4096, .inl (aN D)))] := hD
  refine lv_aload_n hx hb dX5_spoil_35 rfl (lv_at hl 0 rfl) ?_
  refine va_get (D := dd) (ci := 5) (v := .int (nI 0)) (C := RX5) (T := TX5) (N := 15) hx hb hts hin_X5 hown hK.1 hP 0 rfl rfl 0 (by decide) hf_48 (fun _ h9 => h9) rfl dX5_spoil_36 ?_
  refine nr_if_ne (tgt := 49) hx hb (by omega) dX5_spoil_39 (by decide) (fun c_39 => absurd c_39 (by omega)) (fun c_39 => ?_)
  refine lv_aload_n hx hb dX5_spoil_42 rfl (lv_at hl 0 rfl) ?_
  refine va_get (D := dd) (ci := 5) (v := .ref qD) (C := RX5) (T := TX5) (N := 15) hx hb hts hin_X5 hown hK.1 hP 0 rfl rfl 1 (by decide) hf_7 (fun _ h9 => h9) rfl dX5_spoil_43 ?_
  refine lv_iload_n hx hb dX5_spoil_46 rfl (lv_at hl 1 rfl) ?_
  refine lv_iload_n hx hb dX5_spoil_47 rfl (lv_at hl 2 rfl) ?_
  refine nr_iast (f := D) (v := v) hx hb hK hP hD hS 1 rfl (by omega) (by decide) dX5_spoil_48 (fun H locs hP hD hS => ?_)
  have hP : va_P dd vwCl [(g0, .inr (5, [.int (nI 0), .ref qD, .ref qT, .int (nI U), .int (pI le wl), .int wd, .ref qN, .ref qO, .ref qS, .ref qC, .ref qP, .ref qG, .ref qB, .ref qF, .ref qX])), (qD, .inl (cI, 4096, .inl (aN (va_up D i v))))] H := hP
  have hD : va_D A [(g0, .inr (5, [.int (nI 0), .ref qD, .ref qT, .int (nI U), .int (pI le wl), .int wd, .ref qN, .ref qO, .ref qS, .ref qC, .ref qP, .ref qG, .ref qB, .ref qF, .ref qX])), (qD, .inl (cI, 4096, .inl (aN (va_up D i v))))] := hD
  have hP9 := hP.sub (ws' := [(g0, .inr (5, [.int (nI 0), .ref qD, .ref qT, .int (nI U), .int (pI le wl), .int wd, .ref qN, .ref qO, .ref qS, .ref qC, .ref qP, .ref qG, .ref qB, .ref qF, .ref qX])), (qD, .inl (cI, 4096, .inl (aN (va_up D i v))))]) [0, 1] rfl
  have hD9 := hD.sub (ws' := [(g0, .inr (5, [.int (nI 0), .ref qD, .ref qT, .int (nI U), .int (pI le wl), .int wd, .ref qN, .ref qO, .ref qS, .ref qC, .ref qP, .ref qG, .ref qB, .ref qF, .ref qX])), (qD, .inl (cI, 4096, .inl (aN (va_up D i v))))]) [0, 1] (by decide) rfl
  exact W.vret hx hb hr (fun t ht hW => ⟨⟨(), rfl, trivial, by rw [ht]; exact hP9, hD9⟩, hS.F ht⟩) hS.2.2 dX5_spoil_49

set_option maxHeartbeats 4000000 in
set_option maxRecDepth 100000 in
theorem kX5_places (l : Launch) (dd : va_G) (cI cZ cR cJ : ClassId) (g0 : Nat) (th : Nat) (U : Nat) (le : Bool) (wl : Nat) (wd : Int32) (qD : Nat) (qT : Nat) (qN : Nat) (qO : Nat) (qS : Nat) (qC : Nat) (qP : Nat) (qG : Nat) (qB : Nat) (qF : Nat) (qX : Nat) (D : Nat → Nat) (bb : Nat) (hb8 : 8 ≤ bb) (hb64 : bb < 64) (hDb : ∀ j, D j < 256) : Met l yX5_places wsX5_places ({ frames := 1, cells := 0, slots := 0, locals := 21 }) (va_Pc [.ref g0, .int (nI bb)] (qc dd cI cZ cR cJ [(g0, .inr (5, [.int (nI th), .ref qD, .ref qT, .int (nI U), .int (pI le wl), .int wd, .ref qN, .ref qO, .ref qS, .ref qC, .ref qP, .ref qG, .ref qB, .ref qF, .ref qX])), (qD, .inl (cI, 4096, .inl (aN D)))])) (QcRead (nI (tlE D z0N 32 bb))) 0 0 (fun _ => False) := by
  refine mk_met (cc := cX5_places) (maxL := 6) (ret := (some .int)) (by decide) rfl (Nat.le_of_ble_eq_true rfl) ?_
  intro p e s m below meth c hx hb hr hts hown hlocks hml hin hv ls hl
  obtain ⟨hP, hK⟩ := hv
  have hown : s.vm.findClass RX5 = some m.cls := hown
  have hl : lv_has ls 6 [(0, .ref g0), (1, .int (nI bb))] := hl
  have hf_7 := hts (.fieldLink RX5 7 "RecordSystemModel" "disk" "[I") (by decide +kernel)
  have hin_X5 : ∀ w ∈ wsX50, w ∈ wsX5_places := by decide +kernel
  refine lv_iconst (v := nI 0) hx hb dX5_places_0 (by decide) ?_
  refine lv_istore_n (lv' := [(2, .int (nI 0)), (0, .ref g0), (1, .int (nI bb))]) hx hb dX5_places_1 rfl hl (by decide) rfl (fun ls hl => ?_)
  refine lv_iconst (v := nI 0) hx hb dX5_places_2 (by decide) ?_
  refine lv_istore_n (lv' := [(3, .int (nI 0)), (2, .int (nI 0)), (0, .ref g0), (1, .int (nI bb))]) hx hb dX5_places_3 rfl hl (by decide) rfl (fun ls hl => ?_)
  have loop_1 : ∀ (n e2 : Nat), e2 ≤ 32 → 32 + 1 ≤ e2 + n → ∀ ls : Array Slot, lv_has ls 6 [(3, .int (nI e2)), (2, .int (nI (tlE D z0N e2 bb))), (0, .ref g0), (1, .int (nI bb))] → W p l e (({ frames := 1, cells := 0, slots := 0, locals := 21 } : Room)) s m ([.ref g0, .int (nI bb)] : List Value).toArray below meth c s.heap [] 0 0 (MQ below (QcRead (nI (tlE D z0N 32 bb))) ([.ref g0, .int (nI bb)] : List Value).toArray s 0 0 (fun _ => False)) (F0 m 4 ls []) := by
    intro n
    induction n with
    | zero => intro e2 h1 h2; exact absurd h2 (by omega)
    | succ n ih =>
      intro e2 hk_e2 hn_e2 ls hl
      have ih_2 := ih
      refine lv_iload_n hx hb dX5_places_4 rfl (lv_at hl 0 rfl) ?_
      refine lv_bipush (v := nI 32) hx hb dX5_places_5 (by decide) ?_
      refine nr_ge (tgt := 77) hx hb (by omega) (by omega) dX5_places_7 (by decide) (fun c_7 => ?_) (fun c_7 => ?_)
      · have ek_e2 : e2 = 32 := by omega
        subst ek_e2
        refine lv_iload_n hx hb dX5_places_77 rfl (lv_at hl 1 rfl) ?_
        have hR : nI (tlE D z0N 32 bb) = nI (tlE D z0N 32 bb) := rfl
        exact W.iret (v := nI (tlE D z0N 32 bb)) hx hb hr (fun t ht hW => ⟨congrArg (fun z => Outcome.returned (some (Value.int z))) hR, ht⟩) (fun q h => nomatch h) dX5_places_78
      · refine lv_bipush (v := nI 9) hx hb dX5_places_10 (by decide) ?_
        refine lv_istore (lv' := [(4, .int (nI 9)), (3, .int (nI e2)), (2, .int (nI (tlE D z0N e2 bb))), (0, .ref g0), (1, .int (nI bb))]) hx hb dX5_places_12 hl (by decide) rfl (fun ls hl => ?_)
        have loop_3 : ∀ (n k2 : Nat), k2 ≤ 16 → 16 + 1 ≤ k2 + n → (9 ≤ k2) → ∀ ls : Array Slot, lv_has ls 6 [(4, .int (nI k2)), (3, .int (nI e2)), (2, .int (nI (tlX D e2 (tlE D z0N e2) (k2 - 9) bb))), (0, .ref g0), (1, .int (nI bb))] → W p l e (({ frames := 1, cells := 0, slots := 0, locals := 21 } : Room)) s m ([.ref g0, .int (nI bb)] : List Value).toArray below meth c s.heap [] 0 0 (MQ below (QcRead (nI (tlE D z0N 32 bb))) ([.ref g0, .int (nI bb)] : List Value).toArray s 0 0 (fun _ => False)) (F0 m 14 ls []) := by
          intro n
          induction n with
          | zero => intro k2 h1 h2; exact absurd h2 (by omega)
          | succ n ih =>
            intro k2 hk_k2 hn_k2 h9 ls hl
            have ih_4 := ih
            refine lv_iload hx hb dX5_places_14 (lv_at hl 0 rfl) ?_
            refine lv_bipush (v := nI 16) hx hb dX5_places_16 (by decide) ?_
            refine nr_ge (tgt := 71) hx hb (by omega) (by omega) dX5_places_18 (by decide) (fun c_18 => ?_) (fun c_18 => ?_)
            · have ek_k2 : k2 = 16 := by omega
              subst ek_k2
              refine lv_iinc (v := nI (e2 + 1)) (lv' := [(3, .int (nI (e2 + 1))), (4, .int (nI 16)), (2, .int (nI (tlX D e2 (tlE D z0N e2) (16 - 9) bb))), (0, .ref g0), (1, .int (nI bb))]) hx hb dX5_places_71 hl (k := 1) rfl (nr_inc _ _ (by omega)) (by decide) rfl (fun ls hl => ?_)
              refine lv_goto (tgt := 4) hx hb dX5_places_74 (by decide) ?_
              rw [show tlX D e2 (tlE D z0N e2) (16 - 9) bb = tlE D z0N (e2 + 1) bb from tlX_e] at hl
              exact ih_2 (e2 + 1) (by omega) (by omega) ls (lv_sub hl [0, 2, 3, 4] rfl)
            · refine lv_aload_n hx hb dX5_places_21 rfl (lv_at hl 3 rfl) ?_
              refine va_get (D := dd) (ci := 5) (v := .ref qD) (C := RX5) (T := TX5) (N := 15) hx hb hts hin_X5 hown hK.1 hP 0 rfl rfl 1 (by decide) hf_7 (fun _ h9 => h9) rfl dX5_places_22 ?_
              refine lv_bipush (v := nI 16) hx hb dX5_places_25 (by decide) ?_
              refine lv_iload_n hx hb dX5_places_27 rfl (lv_at hl 1 rfl) ?_
              refine nr_imul (16 * e2) (by omega) hx hb dX5_places_28 ?_
              refine lv_iload hx hb dX5_places_29 (lv_at hl 0 rfl) ?_
              refine nr_iadd (16 * e2 + k2) (by omega) hx hb dX5_places_31 ?_
              refine nr_iald (f := D) hx hb hK hP 1 rfl (by omega) (by decide) dX5_places_32 ?_
              have hv_5 := hDb (16 * e2 + k2)
              refine lv_istore (lv' := [(5, .int (nI (D (16 * e2 + k2)))), (4, .int (nI k2)), (3, .int (nI e2)), (2, .int (nI (tlX D e2 (tlE D z0N e2) (k2 - 9) bb))), (0, .ref g0), (1, .int (nI bb))]) hx hb dX5_places_33 hl (by decide) rfl (fun ls hl => ?_)
              refine lv_aload_n hx hb dX5_places_35 rfl (lv_at hl 4 rfl) ?_
              refine lv_iload_n hx hb dX5_places_36 rfl (lv_at hl 2 rfl) ?_
              refine cr_i (va_runV (As := [.int (nI e2)]) (rest := []) ⟨hx, hb, hml, hown, hts⟩ (kX5_isFree l dd cI cZ cR cJ g0 th U le wl wd qD qT qN qO qS qC qP qG qB qF qX D e2 (by omega) hDb) (cwV 1 hts gX5_places_X5_isFree rfl rfl rfl (by decide +kernel) ⟨Nat.le_of_ble_eq_true rfl, Nat.le_of_ble_eq_true rfl⟩) (pv_c hK hP 0 rfl (ci := 5) rfl [0, 1] rfl) rfl rfl hl.1 rfl (lv_room (Nat.le_of_ble_eq_true rfl)) dX5_places_37 ⟨Nat.zero_le _, Nat.zero_le _⟩) ?_
              refine br_if_ne (tgt := 63) hx hb dX5_places_40 (by decide) (fun c_40 => ?_) (fun c_40 => ?_)
              · refine lv_iload_n hx hb dX5_places_63 rfl (lv_at hl 3 rfl) ?_
                refine lv_istore_n (lv' := [(2, .int (nI (tlX D e2 (tlE D z0N e2) (k2 - 9) bb))), (5, .int (nI (D (16 * e2 + k2)))), (4, .int (nI k2)), (3, .int (nI e2)), (0, .ref g0), (1, .int (nI bb))]) hx hb dX5_places_64 rfl hl (by decide) rfl (fun ls hl => ?_)
                refine lv_iinc (v := nI (k2 + 1)) (lv' := [(4, .int (nI (k2 + 1))), (2, .int (nI (tlX D e2 (tlE D z0N e2) (k2 - 9) bb))), (5, .int (nI (D (16 * e2 + k2)))), (3, .int (nI e2)), (0, .ref g0), (1, .int (nI bb))]) hx hb dX5_places_65 hl (k := 2) rfl (nr_inc _ _ (by omega)) (by decide) rfl (fun ls hl => ?_)
                refine lv_goto (tgt := 14) hx hb dX5_places_68 (by decide) ?_
                have hz : tlX D e2 (tlE D z0N e2) (k2 - 9) bb = tlX D e2 (tlE D z0N e2) (k2 + 1 - 9) bb := by rw [show k2 + 1 - 9 = (k2 - 9) + 1 by omega]; exact tlX_f c_40
                rw [hz] at hl
                exact ih_4 (k2 + 1) (by omega) (by omega) (by omega) ls (lv_sub hl [0, 3, 1, 4, 5] rfl)
              · refine lv_iload hx hb dX5_places_43 (lv_at hl 0 rfl) ?_
                refine nr_if_eq (tgt := 63) hx hb (by omega) dX5_places_45 (by decide) (fun c_45 => ?_) (fun c_45 => ?_)
                · refine lv_iload_n hx hb dX5_places_63 rfl (lv_at hl 3 rfl) ?_
                  refine lv_istore_n (lv' := [(2, .int (nI (tlX D e2 (tlE D z0N e2) (k2 - 9) bb))), (5, .int (nI (D (16 * e2 + k2)))), (4, .int (nI k2)), (3, .int (nI e2)), (0, .ref g0), (1, .int (nI bb))]) hx hb dX5_places_64 rfl hl (by decide) rfl (fun ls hl => ?_)
                  refine lv_iinc (v := nI (k2 + 1)) (lv' := [(4, .int (nI (k2 + 1))), (2, .int (nI (tlX D e2 (tlE D z0N e2) (k2 - 9) bb))), (5, .int (nI (D (16 * e2 + k2)))), (3, .int (nI e2)), (0, .ref g0), (1, .int (nI bb))]) hx hb dX5_places_65 hl (k := 2) rfl (nr_inc _ _ (by omega)) (by decide) rfl (fun ls hl => ?_)
                  refine lv_goto (tgt := 14) hx hb dX5_places_68 (by decide) ?_
                  have hz : tlX D e2 (tlE D z0N e2) (k2 - 9) bb = tlX D e2 (tlE D z0N e2) (k2 + 1 - 9) bb := by rw [show k2 + 1 - 9 = (k2 - 9) + 1 by omega]; exact tlX_n c_40 (by rw [show 16 * e2 + (k2 - 9) + 9 = 16 * e2 + k2 by omega]; omega)
                  rw [hz] at hl
                  exact ih_4 (k2 + 1) (by omega) (by omega) (by omega) ls (lv_sub hl [0, 3, 1, 4, 5] rfl)
                · refine lv_iload hx hb dX5_places_48 (lv_at hl 0 rfl) ?_
                  refine lv_bipush (v := nI 64) hx hb dX5_places_50 (by decide) ?_
                  refine nr_irem (((D (16 * e2 + k2)) % 64)) (by omega) hx hb (by omega) (by omega) (by omega) dX5_places_52 ?_
                  refine lv_iload_n hx hb dX5_places_53 rfl (lv_at hl 5 rfl) ?_
                  refine nr_ne (tgt := 63) hx hb (by omega) (by omega) dX5_places_54 (by decide) (fun c_54 => ?_) (fun c_54 => ?_)
                  · refine lv_iload_n hx hb dX5_places_63 rfl (lv_at hl 3 rfl) ?_
                    refine lv_istore_n (lv' := [(2, .int (nI (tlX D e2 (tlE D z0N e2) (k2 - 9) bb))), (5, .int (nI (D (16 * e2 + k2)))), (4, .int (nI k2)), (3, .int (nI e2)), (0, .ref g0), (1, .int (nI bb))]) hx hb dX5_places_64 rfl hl (by decide) rfl (fun ls hl => ?_)
                    refine lv_iinc (v := nI (k2 + 1)) (lv' := [(4, .int (nI (k2 + 1))), (2, .int (nI (tlX D e2 (tlE D z0N e2) (k2 - 9) bb))), (5, .int (nI (D (16 * e2 + k2)))), (3, .int (nI e2)), (0, .ref g0), (1, .int (nI bb))]) hx hb dX5_places_65 hl (k := 2) rfl (nr_inc _ _ (by omega)) (by decide) rfl (fun ls hl => ?_)
                    refine lv_goto (tgt := 14) hx hb dX5_places_68 (by decide) ?_
                    have hz : tlX D e2 (tlE D z0N e2) (k2 - 9) bb = tlX D e2 (tlE D z0N e2) (k2 + 1 - 9) bb := by rw [show k2 + 1 - 9 = (k2 - 9) + 1 by omega]; exact tlX_n c_40 (by rw [show 16 * e2 + (k2 - 9) + 9 = 16 * e2 + k2 by omega]; exact c_54)
                    rw [hz] at hl
                    exact ih_4 (k2 + 1) (by omega) (by omega) (by omega) ls (lv_sub hl [0, 3, 1, 4, 5] rfl)
                  · refine lv_iload_n hx hb dX5_places_57 rfl (lv_at hl 3 rfl) ?_
                    refine lv_iconst (v := nI 1) hx hb dX5_places_58 (by decide) ?_
                    refine nr_iadd (tlX D e2 (tlE D z0N e2) (k2 - 9) bb + 1) (by omega) hx hb dX5_places_59 ?_
                    refine lv_goto (tgt := 64) hx hb dX5_places_60 (by decide) ?_
                    refine lv_istore_n (lv' := [(2, .int (nI (tlX D e2 (tlE D z0N e2) (k2 - 9) bb + 1))), (5, .int (nI (D (16 * e2 + k2)))), (4, .int (nI k2)), (3, .int (nI e2)), (0, .ref g0), (1, .int (nI bb))]) hx hb dX5_places_64 rfl hl (by decide) rfl (fun ls hl => ?_)
                    refine lv_iinc (v := nI (k2 + 1)) (lv' := [(4, .int (nI (k2 + 1))), (2, .int (nI (tlX D e2 (tlE D z0N e2) (k2 - 9) bb + 1))), (5, .int (nI (D (16 * e2 + k2)))), (3, .int (nI e2)), (0, .ref g0), (1, .int (nI bb))]) hx hb dX5_places_65 hl (k := 2) rfl (nr_inc _ _ (by omega)) (by decide) rfl (fun ls hl => ?_)
                    refine lv_goto (tgt := 14) hx hb dX5_places_68 (by decide) ?_
                    have hz : tlX D e2 (tlE D z0N e2) (k2 - 9) bb + 1 = tlX D e2 (tlE D z0N e2) (k2 + 1 - 9) bb := by rw [show k2 + 1 - 9 = (k2 - 9) + 1 by omega]; exact tlX_y c_40 (by rw [show 16 * e2 + (k2 - 9) + 9 = 16 * e2 + k2 by omega]; exact c_54)
                    rw [hz] at hl
                    exact ih_4 (k2 + 1) (by omega) (by omega) (by omega) ls (lv_sub hl [0, 3, 1, 4, 5] rfl)
        exact loop_3 (16 + 1) 9 (by omega) (by omega) (by omega) ls (by rw [← show nI (tlE D z0N e2 bb) = nI (tlX D e2 (tlE D z0N e2) (9 - 9) bb) from by simp [tlX, tlB]]; exact lv_sub hl [0, 1, 2, 3, 4] rfl)
  exact loop_1 (32 + 1) 0 (by omega) (by omega) ls (lv_sub hl [0, 1, 2, 3] rfl)

set_option maxHeartbeats 4000000 in
set_option maxRecDepth 100000 in
theorem kX5_told_0 (l : Launch) (dd : va_G) (cI cZ cR cJ : ClassId) (g0 : Nat) (th : Nat) (U : Nat) (le : Bool) (wl : Nat) (wd : Int32) (qD : Nat) (qT : Nat) (qN : Nat) (qO : Nat) (qS : Nat) (qC : Nat) (qP : Nat) (qG : Nat) (qB : Nat) (qF : Nat) (qX : Nat) (D : Nat → Nat) (T : Nat → Bool) (sz : Nat) (hDb : ∀ j, D j < 256) : Met l yX5_told wsX5_told ({ frames := 2, cells := 0, slots := 0, locals := 100 }) (va_Pc [.ref g0, .int (nI 0)] (qm dd cI cZ cR cJ sz [(g0, .inr (5, [.int (nI th), .ref qD, .ref qT, .int (nI U), .int (pI le wl), .int wd, .ref qN, .ref qO, .ref qS, .ref qC, .ref qP, .ref qG, .ref qB, .ref qF, .ref qX])), (qD, .inl (cI, 4096, .inl (aN D))), (qT, .inl (cZ, 64, .inl (aB T)))])) (va_Qi (fun (r : Int32) (u : Unit) => r = mTold D T wd 0) (fun u t => qa dd (va_A [(g0, .inr (5, [.int (nI th), .ref qD, .ref qT, .int (nI U), .int (pI le wl), .int wd, .ref qN, .ref qO, .ref qS, .ref qC, .ref qP, .ref qG, .ref qB, .ref qF, .ref qX])), (qD, .inl (cI, 4096, .inl (aN D))), (qT, .inl (cZ, 64, .inl (aB T)))] sz) [(g0, .inr (5, [.int (nI 0), .ref qD, .ref qT, .int (nI U), .int (pI le wl), .int wd, .ref qN, .ref qO, .ref qS, .ref qC, .ref qP, .ref qG, .ref qB, .ref qF, .ref qX])), (qD, .inl (cI, 4096, .inl (aN D))), (qT, .inl (cZ, 64, .inl (aB T)))] t) (va_A [(g0, .inr (5, [.int (nI th), .ref qD, .ref qT, .int (nI U), .int (pI le wl), .int wd, .ref qN, .ref qO, .ref qS, .ref qC, .ref qP, .ref qG, .ref qB, .ref qF, .ref qX])), (qD, .inl (cI, 4096, .inl (aN D))), (qT, .inl (cZ, 64, .inl (aB T)))] sz)) 0 0 (va_A [(g0, .inr (5, [.int (nI th), .ref qD, .ref qT, .int (nI U), .int (pI le wl), .int wd, .ref qN, .ref qO, .ref qS, .ref qC, .ref qP, .ref qG, .ref qB, .ref qF, .ref qX])), (qD, .inl (cI, 4096, .inl (aN D))), (qT, .inl (cZ, 64, .inl (aB T)))] sz) := by
  refine mk_mut (cc := cX5_told) (maxL := 4) (ret := (some .int)) (Qf := fun A => va_Qi (fun (r : Int32) (u : Unit) => r = mTold D T wd 0) (fun u t => qa dd A [(g0, .inr (5, [.int (nI 0), .ref qD, .ref qT, .int (nI U), .int (pI le wl), .int wd, .ref qN, .ref qO, .ref qS, .ref qC, .ref qP, .ref qG, .ref qB, .ref qF, .ref qX])), (qD, .inl (cI, 4096, .inl (aN D))), (qT, .inl (cZ, 64, .inl (aB T)))] t) A) (by decide) rfl (Nat.le_of_ble_eq_true rfl) ?_
  intro p e s m below meth c A hx hb hr hts hown hlocks hml hin hP hD hA hS hK ls hl
  have hown : s.vm.findClass RX5 = some m.cls := hown
  have hl : lv_has ls 4 [(0, .ref g0), (1, .int (nI 0))] := hl
  have hf_48 := hts (.fieldLink RX5 48 "RecordSystemModel" "thrown" "I") (by decide +kernel)
  have hin_X5 : ∀ w ∈ wsX50, w ∈ wsX5_told := by decide +kernel
  refine lv_aload_n hx hb dX5_told_0 rfl (lv_at hl 0 rfl) ?_
  refine lv_iload_n hx hb dX5_told_1 rfl (lv_at hl 1 rfl) ?_
  refine nr_if_lt (tgt := 10) hx hb (by omega) dX5_told_2 (by decide) ?_
  refine lv_iload_n hx hb dX5_told_5 rfl (lv_at hl 1 rfl) ?_
  refine lv_iconst (v := nI 3) hx hb dX5_told_6 (by decide) ?_
  refine nr_le (tgt := 14) hx hb (by omega) (by omega) dX5_told_7 (by decide) (fun c_7 => ?_) (fun c_7 => absurd c_7 (by omega))
  refine lv_iconst (v := nI 0) hx hb dX5_told_14 (by decide) ?_
  refine va_put (D := dd) (ci := 5) (v := .int (nI 0)) (ty := .int) (C := RX5) (T := TX5) (N := 15) hx hb hts hin_X5 tyX5 tyX5_ok nmX5 hown hK.1 hP hD hS 0 rfl rfl 0 (by decide) hf_48 (fun _ h9 => h9) rfl (by decide +kernel) rfl rfl (Nat.le_of_ble_eq_true rfl) dX5_told_15 (fun H locs hP hD hS => ?_)
  have hP : va_P dd vwCl [(g0, .inr (5, [.int (nI 0), .ref qD, .ref qT, .int (nI U), .int (pI le wl), .int wd, .ref qN, .ref qO, .ref qS, .ref qC, .ref qP, .ref qG, .ref qB, .ref qF, .ref qX])), (qD, .inl (cI, 4096, .inl (aN D))), (qT, .inl (cZ, 64, .inl (aB T)))] H := hP
  have hD : va_D A [(g0, .inr (5, [.int (nI 0), .ref qD, .ref qT, .int (nI U), .int (pI le wl), .int wd, .ref qN, .ref qO, .ref qS, .ref qC, .ref qP, .ref qG, .ref qB, .ref qF, .ref qX])), (qD, .inl (cI, 4096, .inl (aN D))), (qT, .inl (cZ, 64, .inl (aB T)))] := hD
  refine lv_aload_n hx hb dX5_told_18 rfl (lv_at hl 0 rfl) ?_
  refine va_get (D := dd) (ci := 5) (v := .int (nI 0)) (C := RX5) (T := TX5) (N := 15) hx hb hts hin_X5 hown hK.1 hP 0 rfl rfl 0 (by decide) hf_48 (fun _ h9 => h9) rfl dX5_told_19 ?_
  refine nr_if_le (tgt := 27) hx hb (by omega) dX5_told_22 (by decide) (fun c_22 => ?_) (fun c_22 => absurd c_22 (by omega))
  refine lv_iconst (v := nI 0) hx hb dX5_told_27 (by decide) ?_
  refine lv_istore_n (lv' := [(2, .int (nI 0)), (0, .ref g0), (1, .int (nI 0))]) hx hb dX5_told_28 rfl hl (by decide) rfl (fun ls hl => ?_)
  refine lv_bipush (v := nI 8) hx hb dX5_told_29 (by decide) ?_
  refine lv_istore_n (lv' := [(3, .int (nI 8)), (2, .int (nI 0)), (0, .ref g0), (1, .int (nI 0))]) hx hb dX5_told_31 rfl hl (by decide) rfl (fun ls hl => ?_)
  refine lv_iload_n hx hb dX5_told_32 rfl (lv_at hl 0 rfl) ?_
  refine lv_bipush (v := nI 64) hx hb dX5_told_33 (by decide) ?_
  refine nr_ge (tgt := 66) hx hb (by omega) (by omega) dX5_told_35 (by decide) (fun c_35 => absurd c_35 (by omega)) (fun c_35 => ?_)
  refine lv_iload_n hx hb dX5_told_38 rfl (lv_at hl 3 rfl) ?_
  refine lv_iconst (v := nI 1) hx hb dX5_told_39 (by decide) ?_
  refine nr_ne (tgt := 66) hx hb (by omega) (by omega) dX5_told_40 (by decide) (fun c_40 => ?_) (fun c_40 => absurd c_40 (by omega))
  refine lv_iconst (v := nI 0) hx hb dX5_told_66 (by decide) ?_
  refine lv_istore_n (lv' := [(3, .int (nI 0)), (2, .int (nI 0)), (0, .ref g0), (1, .int (nI 0))]) hx hb dX5_told_67 rfl hl (by decide) rfl (fun ls hl => ?_)
  refine lv_iload_n hx hb dX5_told_68 rfl (lv_at hl 0 rfl) ?_
  refine lv_bipush (v := nI 32) hx hb dX5_told_69 (by decide) ?_
  refine nr_ge (tgt := 101) hx hb (by omega) (by omega) dX5_told_71 (by decide) (fun c_71 => absurd c_71 (by omega)) (fun c_71 => ?_)
  refine lv_iload_n hx hb dX5_told_74 rfl (lv_at hl 3 rfl) ?_
  refine lv_iconst (v := nI 2) hx hb dX5_told_75 (by decide) ?_
  refine nr_ne (tgt := 101) hx hb (by omega) (by omega) dX5_told_76 (by decide) (fun c_76 => ?_) (fun c_76 => absurd c_76 (by omega))
  refine lv_iload_n hx hb dX5_told_101 rfl (lv_at hl 3 rfl) ?_
  refine nr_if_ne (tgt := 112) hx hb (by omega) dX5_told_102 (by decide) (fun c_102 => absurd c_102 (by omega)) (fun c_102 => ?_)
  refine lv_aload_n hx hb dX5_told_105 rfl (lv_at hl 2 rfl) ?_
  refine cr_i (va_runV (As := []) (rest := []) ⟨hx, hb, hml, hown, hts⟩ (kX5_untaken l dd cI cZ cR cJ g0 0 U le wl wd qD qT qN qO qS qC qP qG qB qF qX T) (cwV 0 hts gX5_told_X5_untaken rfl rfl rfl (by decide +kernel) ⟨Nat.le_of_ble_eq_true rfl, Nat.le_of_ble_eq_true rfl⟩) (pv_c hK hP 0 rfl (ci := 5) rfl [0, 2] rfl) rfl rfl hl.1 rfl (lv_room (Nat.le_of_ble_eq_true rfl)) dX5_told_106 ⟨Nat.zero_le _, Nat.zero_le _⟩) ?_
  refine lv_goto (tgt := 125) hx hb dX5_told_109 (by decide) ?_
  have hP9 := hP.sub (ws' := [(g0, .inr (5, [.int (nI 0), .ref qD, .ref qT, .int (nI U), .int (pI le wl), .int wd, .ref qN, .ref qO, .ref qS, .ref qC, .ref qP, .ref qG, .ref qB, .ref qF, .ref qX])), (qD, .inl (cI, 4096, .inl (aN D))), (qT, .inl (cZ, 64, .inl (aB T)))]) [0, 1, 2] rfl
  have hD9 := hD.sub (ws' := [(g0, .inr (5, [.int (nI 0), .ref qD, .ref qT, .int (nI U), .int (pI le wl), .int wd, .ref qN, .ref qO, .ref qS, .ref qC, .ref qP, .ref qG, .ref qB, .ref qF, .ref qX])), (qD, .inl (cI, 4096, .inl (aN D))), (qT, .inl (cZ, 64, .inl (aB T)))]) [0, 1, 2] (by decide) rfl
  exact W.iret (v := nI (cnt (ntB T) 64)) hx hb hr (fun t ht hW => ⟨⟨nI (cnt (ntB T) 64), (), rfl, by simp [mTold], by rw [ht]; exact hP9, hD9⟩, hS.F ht⟩) hS.2.2 dX5_told_125

set_option maxHeartbeats 4000000 in
set_option maxRecDepth 100000 in
theorem kX5_told_1 (l : Launch) (dd : va_G) (cI cZ cR cJ : ClassId) (g0 : Nat) (th : Nat) (U : Nat) (le : Bool) (wl : Nat) (wd : Int32) (qD : Nat) (qT : Nat) (qN : Nat) (qO : Nat) (qS : Nat) (qC : Nat) (qP : Nat) (qG : Nat) (qB : Nat) (qF : Nat) (qX : Nat) (D : Nat → Nat) (T : Nat → Bool) (sz : Nat) (hDb : ∀ j, D j < 256) : Met l yX5_told wsX5_told ({ frames := 2, cells := 0, slots := 0, locals := 100 }) (va_Pc [.ref g0, .int (nI 1)] (qm dd cI cZ cR cJ sz [(g0, .inr (5, [.int (nI th), .ref qD, .ref qT, .int (nI U), .int (pI le wl), .int wd, .ref qN, .ref qO, .ref qS, .ref qC, .ref qP, .ref qG, .ref qB, .ref qF, .ref qX])), (qD, .inl (cI, 4096, .inl (aN D))), (qT, .inl (cZ, 64, .inl (aB T)))])) (va_Qi (fun (r : Int32) (u : Unit) => r = mTold D T wd 1) (fun u t => qa dd (va_A [(g0, .inr (5, [.int (nI th), .ref qD, .ref qT, .int (nI U), .int (pI le wl), .int wd, .ref qN, .ref qO, .ref qS, .ref qC, .ref qP, .ref qG, .ref qB, .ref qF, .ref qX])), (qD, .inl (cI, 4096, .inl (aN D))), (qT, .inl (cZ, 64, .inl (aB T)))] sz) [(g0, .inr (5, [.int (nI 0), .ref qD, .ref qT, .int (nI U), .int (pI le wl), .int wd, .ref qN, .ref qO, .ref qS, .ref qC, .ref qP, .ref qG, .ref qB, .ref qF, .ref qX])), (qD, .inl (cI, 4096, .inl (aN D))), (qT, .inl (cZ, 64, .inl (aB T)))] t) (va_A [(g0, .inr (5, [.int (nI th), .ref qD, .ref qT, .int (nI U), .int (pI le wl), .int wd, .ref qN, .ref qO, .ref qS, .ref qC, .ref qP, .ref qG, .ref qB, .ref qF, .ref qX])), (qD, .inl (cI, 4096, .inl (aN D))), (qT, .inl (cZ, 64, .inl (aB T)))] sz)) 0 0 (va_A [(g0, .inr (5, [.int (nI th), .ref qD, .ref qT, .int (nI U), .int (pI le wl), .int wd, .ref qN, .ref qO, .ref qS, .ref qC, .ref qP, .ref qG, .ref qB, .ref qF, .ref qX])), (qD, .inl (cI, 4096, .inl (aN D))), (qT, .inl (cZ, 64, .inl (aB T)))] sz) := by
  refine mk_mut (cc := cX5_told) (maxL := 4) (ret := (some .int)) (Qf := fun A => va_Qi (fun (r : Int32) (u : Unit) => r = mTold D T wd 1) (fun u t => qa dd A [(g0, .inr (5, [.int (nI 0), .ref qD, .ref qT, .int (nI U), .int (pI le wl), .int wd, .ref qN, .ref qO, .ref qS, .ref qC, .ref qP, .ref qG, .ref qB, .ref qF, .ref qX])), (qD, .inl (cI, 4096, .inl (aN D))), (qT, .inl (cZ, 64, .inl (aB T)))] t) A) (by decide) rfl (Nat.le_of_ble_eq_true rfl) ?_
  intro p e s m below meth c A hx hb hr hts hown hlocks hml hin hP hD hA hS hK ls hl
  have hown : s.vm.findClass RX5 = some m.cls := hown
  have hl : lv_has ls 4 [(0, .ref g0), (1, .int (nI 1))] := hl
  have hf_48 := hts (.fieldLink RX5 48 "RecordSystemModel" "thrown" "I") (by decide +kernel)
  have hin_X5 : ∀ w ∈ wsX50, w ∈ wsX5_told := by decide +kernel
  refine lv_aload_n hx hb dX5_told_0 rfl (lv_at hl 0 rfl) ?_
  refine lv_iload_n hx hb dX5_told_1 rfl (lv_at hl 1 rfl) ?_
  refine nr_if_lt (tgt := 10) hx hb (by omega) dX5_told_2 (by decide) ?_
  refine lv_iload_n hx hb dX5_told_5 rfl (lv_at hl 1 rfl) ?_
  refine lv_iconst (v := nI 3) hx hb dX5_told_6 (by decide) ?_
  refine nr_le (tgt := 14) hx hb (by omega) (by omega) dX5_told_7 (by decide) (fun c_7 => ?_) (fun c_7 => absurd c_7 (by omega))
  refine lv_iconst (v := nI 0) hx hb dX5_told_14 (by decide) ?_
  refine va_put (D := dd) (ci := 5) (v := .int (nI 0)) (ty := .int) (C := RX5) (T := TX5) (N := 15) hx hb hts hin_X5 tyX5 tyX5_ok nmX5 hown hK.1 hP hD hS 0 rfl rfl 0 (by decide) hf_48 (fun _ h9 => h9) rfl (by decide +kernel) rfl rfl (Nat.le_of_ble_eq_true rfl) dX5_told_15 (fun H locs hP hD hS => ?_)
  have hP : va_P dd vwCl [(g0, .inr (5, [.int (nI 0), .ref qD, .ref qT, .int (nI U), .int (pI le wl), .int wd, .ref qN, .ref qO, .ref qS, .ref qC, .ref qP, .ref qG, .ref qB, .ref qF, .ref qX])), (qD, .inl (cI, 4096, .inl (aN D))), (qT, .inl (cZ, 64, .inl (aB T)))] H := hP
  have hD : va_D A [(g0, .inr (5, [.int (nI 0), .ref qD, .ref qT, .int (nI U), .int (pI le wl), .int wd, .ref qN, .ref qO, .ref qS, .ref qC, .ref qP, .ref qG, .ref qB, .ref qF, .ref qX])), (qD, .inl (cI, 4096, .inl (aN D))), (qT, .inl (cZ, 64, .inl (aB T)))] := hD
  refine lv_aload_n hx hb dX5_told_18 rfl (lv_at hl 0 rfl) ?_
  refine va_get (D := dd) (ci := 5) (v := .int (nI 0)) (C := RX5) (T := TX5) (N := 15) hx hb hts hin_X5 hown hK.1 hP 0 rfl rfl 0 (by decide) hf_48 (fun _ h9 => h9) rfl dX5_told_19 ?_
  refine nr_if_le (tgt := 27) hx hb (by omega) dX5_told_22 (by decide) (fun c_22 => ?_) (fun c_22 => absurd c_22 (by omega))
  refine lv_iconst (v := nI 0) hx hb dX5_told_27 (by decide) ?_
  refine lv_istore_n (lv' := [(2, .int (nI 0)), (0, .ref g0), (1, .int (nI 1))]) hx hb dX5_told_28 rfl hl (by decide) rfl (fun ls hl => ?_)
  refine lv_bipush (v := nI 8) hx hb dX5_told_29 (by decide) ?_
  refine lv_istore_n (lv' := [(3, .int (nI 8)), (2, .int (nI 0)), (0, .ref g0), (1, .int (nI 1))]) hx hb dX5_told_31 rfl hl (by decide) rfl (fun ls hl => ?_)
  have loop_1 : ∀ (n k : Nat), k ≤ 64 → 64 + 1 ≤ k + n → (8 ≤ k) → ∀ (H : Heap) (locs : List Loc), va_P dd vwCl [(g0, .inr (5, [.int (nI 0), .ref qD, .ref qT, .int (nI U), .int (pI le wl), .int wd, .ref qN, .ref qO, .ref qS, .ref qC, .ref qP, .ref qG, .ref qB, .ref qF, .ref qX])), (qD, .inl (cI, 4096, .inl (aN D))), (qT, .inl (cZ, 64, .inl (aB T)))] H → va_D A [(g0, .inr (5, [.int (nI 0), .ref qD, .ref qT, .int (nI U), .int (pI le wl), .int wd, .ref qN, .ref qO, .ref qS, .ref qC, .ref qP, .ref qG, .ref qB, .ref qF, .ref qX])), (qD, .inl (cI, 4096, .inl (aN D))), (qT, .inl (cZ, 64, .inl (aB T)))] → va_S A s.heap H locs → ∀ ls : Array Slot, lv_has ls 4 [(3, .int (nI k)), (2, .int (nI (cnt (mtB (tlE D z0N 32)) k))), (0, .ref g0), (1, .int (nI 1))] → W p l e (({ frames := 2, cells := 0, slots := 0, locals := 100 } : Room)) s m ([.ref g0, .int (nI 1)] : List Value).toArray below meth c H locs 0 0 (MQ below (va_Qi (fun (r : Int32) (u : Unit) => r = mTold D T wd 1) (fun u t => qa dd A [(g0, .inr (5, [.int (nI 0), .ref qD, .ref qT, .int (nI U), .int (pI le wl), .int wd, .ref qN, .ref qO, .ref qS, .ref qC, .ref qP, .ref qG, .ref qB, .ref qF, .ref qX])), (qD, .inl (cI, 4096, .inl (aN D))), (qT, .inl (cZ, 64, .inl (aB T)))] t) A) ([.ref g0, .int (nI 1)] : List Value).toArray s 0 0 A) (F0 m 32 ls []) := by
    intro n
    induction n with
    | zero => intro k h1 h2; exact absurd h2 (by omega)
    | succ n ih =>
      intro k hk_k hn_k h8k H locs hP hD hS ls hl
      have ih_2 := ih
      refine lv_iload_n hx hb dX5_told_32 rfl (lv_at hl 0 rfl) ?_
      refine lv_bipush (v := nI 64) hx hb dX5_told_33 (by decide) ?_
      refine nr_ge (tgt := 66) hx hb (by omega) (by omega) dX5_told_35 (by decide) (fun c_35 => ?_) (fun c_35 => ?_)
      · have ek_k : k = 64 := by omega
        subst ek_k
        refine lv_iconst (v := nI 0) hx hb dX5_told_66 (by decide) ?_
        refine lv_istore_n (lv' := [(3, .int (nI 0)), (2, .int (nI (cnt (mtB (tlE D z0N 32)) 64))), (0, .ref g0), (1, .int (nI 1))]) hx hb dX5_told_67 rfl hl (by decide) rfl (fun ls hl => ?_)
        refine lv_iload_n hx hb dX5_told_68 rfl (lv_at hl 0 rfl) ?_
        refine lv_bipush (v := nI 32) hx hb dX5_told_69 (by decide) ?_
        refine nr_ge (tgt := 101) hx hb (by omega) (by omega) dX5_told_71 (by decide) (fun c_71 => absurd c_71 (by omega)) (fun c_71 => ?_)
        refine lv_iload_n hx hb dX5_told_74 rfl (lv_at hl 3 rfl) ?_
        refine lv_iconst (v := nI 2) hx hb dX5_told_75 (by decide) ?_
        refine nr_ne (tgt := 101) hx hb (by omega) (by omega) dX5_told_76 (by decide) (fun c_76 => ?_) (fun c_76 => absurd c_76 (by omega))
        refine lv_iload_n hx hb dX5_told_101 rfl (lv_at hl 3 rfl) ?_
        refine nr_if_ne (tgt := 112) hx hb (by omega) dX5_told_102 (by decide) (fun c_102 => ?_) (fun c_102 => absurd c_102 (by omega))
        refine lv_iload_n hx hb dX5_told_112 rfl (lv_at hl 3 rfl) ?_
        refine lv_iconst (v := nI 3) hx hb dX5_told_113 (by decide) ?_
        refine nr_ne (tgt := 124) hx hb (by omega) (by omega) dX5_told_114 (by decide) (fun c_114 => ?_) (fun c_114 => absurd c_114 (by omega))
        refine lv_iload_n hx hb dX5_told_124 rfl (lv_at hl 1 rfl) ?_
        have hP9 := hP.sub (ws' := [(g0, .inr (5, [.int (nI 0), .ref qD, .ref qT, .int (nI U), .int (pI le wl), .int wd, .ref qN, .ref qO, .ref qS, .ref qC, .ref qP, .ref qG, .ref qB, .ref qF, .ref qX])), (qD, .inl (cI, 4096, .inl (aN D))), (qT, .inl (cZ, 64, .inl (aB T)))]) [0, 1, 2] rfl
        have hD9 := hD.sub (ws' := [(g0, .inr (5, [.int (nI 0), .ref qD, .ref qT, .int (nI U), .int (pI le wl), .int wd, .ref qN, .ref qO, .ref qS, .ref qC, .ref qP, .ref qG, .ref qB, .ref qF, .ref qX])), (qD, .inl (cI, 4096, .inl (aN D))), (qT, .inl (cZ, 64, .inl (aB T)))]) [0, 1, 2] (by decide) rfl
        exact W.iret (v := nI (cnt (mtB (tlE D z0N 32)) 64)) hx hb hr (fun t ht hW => ⟨⟨nI (cnt (mtB (tlE D z0N 32)) 64), (), rfl, told_t, by rw [ht]; exact hP9, hD9⟩, hS.F ht⟩) hS.2.2 dX5_told_125
      · refine lv_iload_n hx hb dX5_told_38 rfl (lv_at hl 3 rfl) ?_
        refine lv_iconst (v := nI 1) hx hb dX5_told_39 (by decide) ?_
        refine nr_ne (tgt := 66) hx hb (by omega) (by omega) dX5_told_40 (by decide) (fun c_40 => absurd c_40 (by omega)) (fun c_40 => ?_)
        refine lv_aload_n hx hb dX5_told_43 rfl (lv_at hl 2 rfl) ?_
        refine lv_iload_n hx hb dX5_told_44 rfl (lv_at hl 0 rfl) ?_
        refine cr_i (va_runV (As := [.int (nI k)]) (rest := []) ⟨hx, hb, hml, hown, hts⟩ (kX5_places l dd cI cZ cR cJ g0 0 U le wl wd qD qT qN qO qS qC qP qG qB qF qX D k (by omega) (by omega) hDb) (cwV 1 hts gX5_told_X5_places rfl rfl rfl (by decide +kernel) ⟨Nat.le_of_ble_eq_true rfl, Nat.le_of_ble_eq_true rfl⟩) (pv_c hK hP 0 rfl (ci := 5) rfl [0, 1] rfl) rfl rfl hl.1 rfl (lv_room (Nat.le_of_ble_eq_true rfl)) dX5_told_45 ⟨Nat.zero_le _, Nat.zero_le _⟩) ?_
        have hv := tlE_le D z0N k 32
        have hz0 : z0N k = 0 := rfl
        refine lv_iconst (v := nI 1) hx hb dX5_told_48 (by decide) ?_
        refine nr_le (tgt := 58) hx hb (by omega) (by omega) dX5_told_49 (by decide) (fun c_49 => ?_) (fun c_49 => ?_)
        · refine lv_iload_n hx hb dX5_told_58 rfl (lv_at hl 1 rfl) ?_
          refine lv_istore_n (lv' := [(2, .int (nI (cnt (mtB (tlE D z0N 32)) k))), (3, .int (nI k)), (0, .ref g0), (1, .int (nI 1))]) hx hb dX5_told_59 rfl hl (by decide) rfl (fun ls hl => ?_)
          refine lv_iinc (v := nI (k + 1)) (lv' := [(3, .int (nI (k + 1))), (2, .int (nI (cnt (mtB (tlE D z0N 32)) k))), (0, .ref g0), (1, .int (nI 1))]) hx hb dX5_told_60 hl (k := 1) rfl (nr_inc _ _ (by omega)) (by decide) rfl (fun ls hl => ?_)
          refine lv_goto (tgt := 32) hx hb dX5_told_63 (by decide) ?_
          rw [show cnt (mtB (tlE D z0N 32)) k = cnt (mtB (tlE D z0N 32)) (k + 1) by simp [cnt, mtB, h8k]; omega] at hl
          exact ih_2 (k + 1) (by omega) (by omega) (by omega) _ _ hP hD hS ls (lv_sub hl [0, 1, 2, 3] rfl)
        · refine lv_iload_n hx hb dX5_told_52 rfl (lv_at hl 1 rfl) ?_
          refine lv_iconst (v := nI 1) hx hb dX5_told_53 (by decide) ?_
          refine nr_iadd (cnt (mtB (tlE D z0N 32)) k + 1) (by omega) hx hb dX5_told_54 ?_
          refine lv_goto (tgt := 59) hx hb dX5_told_55 (by decide) ?_
          refine lv_istore_n (lv' := [(2, .int (nI (cnt (mtB (tlE D z0N 32)) k + 1))), (3, .int (nI k)), (0, .ref g0), (1, .int (nI 1))]) hx hb dX5_told_59 rfl hl (by decide) rfl (fun ls hl => ?_)
          refine lv_iinc (v := nI (k + 1)) (lv' := [(3, .int (nI (k + 1))), (2, .int (nI (cnt (mtB (tlE D z0N 32)) k + 1))), (0, .ref g0), (1, .int (nI 1))]) hx hb dX5_told_60 hl (k := 1) rfl (nr_inc _ _ (by omega)) (by decide) rfl (fun ls hl => ?_)
          refine lv_goto (tgt := 32) hx hb dX5_told_63 (by decide) ?_
          rw [show cnt (mtB (tlE D z0N 32)) k + 1 = cnt (mtB (tlE D z0N 32)) (k + 1) by simp [cnt, mtB, h8k]; omega] at hl
          exact ih_2 (k + 1) (by omega) (by omega) (by omega) _ _ hP hD hS ls (lv_sub hl [0, 1, 2, 3] rfl)
  exact loop_1 (64 + 1) 8 (by omega) (by omega) (by omega) _ _ hP hD hS ls (by rw [← show nI 0 = nI (cnt (mtB (tlE D z0N 32)) 8) from by simp [cnt, mtB]]; exact lv_sub hl [0, 1, 2, 3] rfl)

set_option maxHeartbeats 4000000 in
set_option maxRecDepth 100000 in
theorem kX5_told_2 (l : Launch) (dd : va_G) (cI cZ cR cJ : ClassId) (g0 : Nat) (th : Nat) (U : Nat) (le : Bool) (wl : Nat) (wd : Int32) (qD : Nat) (qT : Nat) (qN : Nat) (qO : Nat) (qS : Nat) (qC : Nat) (qP : Nat) (qG : Nat) (qB : Nat) (qF : Nat) (qX : Nat) (D : Nat → Nat) (T : Nat → Bool) (sz : Nat) (hDb : ∀ j, D j < 256) : Met l yX5_told wsX5_told ({ frames := 2, cells := 0, slots := 0, locals := 100 }) (va_Pc [.ref g0, .int (nI 2)] (qm dd cI cZ cR cJ sz [(g0, .inr (5, [.int (nI th), .ref qD, .ref qT, .int (nI U), .int (pI le wl), .int wd, .ref qN, .ref qO, .ref qS, .ref qC, .ref qP, .ref qG, .ref qB, .ref qF, .ref qX])), (qD, .inl (cI, 4096, .inl (aN D))), (qT, .inl (cZ, 64, .inl (aB T)))])) (va_Qi (fun (r : Int32) (u : Unit) => r = mTold D T wd 2) (fun u t => qa dd (va_A [(g0, .inr (5, [.int (nI th), .ref qD, .ref qT, .int (nI U), .int (pI le wl), .int wd, .ref qN, .ref qO, .ref qS, .ref qC, .ref qP, .ref qG, .ref qB, .ref qF, .ref qX])), (qD, .inl (cI, 4096, .inl (aN D))), (qT, .inl (cZ, 64, .inl (aB T)))] sz) [(g0, .inr (5, [.int (nI 0), .ref qD, .ref qT, .int (nI U), .int (pI le wl), .int wd, .ref qN, .ref qO, .ref qS, .ref qC, .ref qP, .ref qG, .ref qB, .ref qF, .ref qX])), (qD, .inl (cI, 4096, .inl (aN D))), (qT, .inl (cZ, 64, .inl (aB T)))] t) (va_A [(g0, .inr (5, [.int (nI th), .ref qD, .ref qT, .int (nI U), .int (pI le wl), .int wd, .ref qN, .ref qO, .ref qS, .ref qC, .ref qP, .ref qG, .ref qB, .ref qF, .ref qX])), (qD, .inl (cI, 4096, .inl (aN D))), (qT, .inl (cZ, 64, .inl (aB T)))] sz)) 0 0 (va_A [(g0, .inr (5, [.int (nI th), .ref qD, .ref qT, .int (nI U), .int (pI le wl), .int wd, .ref qN, .ref qO, .ref qS, .ref qC, .ref qP, .ref qG, .ref qB, .ref qF, .ref qX])), (qD, .inl (cI, 4096, .inl (aN D))), (qT, .inl (cZ, 64, .inl (aB T)))] sz) := by
  refine mk_mut (cc := cX5_told) (maxL := 4) (ret := (some .int)) (Qf := fun A => va_Qi (fun (r : Int32) (u : Unit) => r = mTold D T wd 2) (fun u t => qa dd A [(g0, .inr (5, [.int (nI 0), .ref qD, .ref qT, .int (nI U), .int (pI le wl), .int wd, .ref qN, .ref qO, .ref qS, .ref qC, .ref qP, .ref qG, .ref qB, .ref qF, .ref qX])), (qD, .inl (cI, 4096, .inl (aN D))), (qT, .inl (cZ, 64, .inl (aB T)))] t) A) (by decide) rfl (Nat.le_of_ble_eq_true rfl) ?_
  intro p e s m below meth c A hx hb hr hts hown hlocks hml hin hP hD hA hS hK ls hl
  have hown : s.vm.findClass RX5 = some m.cls := hown
  have hl : lv_has ls 4 [(0, .ref g0), (1, .int (nI 2))] := hl
  have hf_48 := hts (.fieldLink RX5 48 "RecordSystemModel" "thrown" "I") (by decide +kernel)
  have hin_X5 : ∀ w ∈ wsX50, w ∈ wsX5_told := by decide +kernel
  refine lv_aload_n hx hb dX5_told_0 rfl (lv_at hl 0 rfl) ?_
  refine lv_iload_n hx hb dX5_told_1 rfl (lv_at hl 1 rfl) ?_
  refine nr_if_lt (tgt := 10) hx hb (by omega) dX5_told_2 (by decide) ?_
  refine lv_iload_n hx hb dX5_told_5 rfl (lv_at hl 1 rfl) ?_
  refine lv_iconst (v := nI 3) hx hb dX5_told_6 (by decide) ?_
  refine nr_le (tgt := 14) hx hb (by omega) (by omega) dX5_told_7 (by decide) (fun c_7 => ?_) (fun c_7 => absurd c_7 (by omega))
  refine lv_iconst (v := nI 0) hx hb dX5_told_14 (by decide) ?_
  refine va_put (D := dd) (ci := 5) (v := .int (nI 0)) (ty := .int) (C := RX5) (T := TX5) (N := 15) hx hb hts hin_X5 tyX5 tyX5_ok nmX5 hown hK.1 hP hD hS 0 rfl rfl 0 (by decide) hf_48 (fun _ h9 => h9) rfl (by decide +kernel) rfl rfl (Nat.le_of_ble_eq_true rfl) dX5_told_15 (fun H locs hP hD hS => ?_)
  have hP : va_P dd vwCl [(g0, .inr (5, [.int (nI 0), .ref qD, .ref qT, .int (nI U), .int (pI le wl), .int wd, .ref qN, .ref qO, .ref qS, .ref qC, .ref qP, .ref qG, .ref qB, .ref qF, .ref qX])), (qD, .inl (cI, 4096, .inl (aN D))), (qT, .inl (cZ, 64, .inl (aB T)))] H := hP
  have hD : va_D A [(g0, .inr (5, [.int (nI 0), .ref qD, .ref qT, .int (nI U), .int (pI le wl), .int wd, .ref qN, .ref qO, .ref qS, .ref qC, .ref qP, .ref qG, .ref qB, .ref qF, .ref qX])), (qD, .inl (cI, 4096, .inl (aN D))), (qT, .inl (cZ, 64, .inl (aB T)))] := hD
  refine lv_aload_n hx hb dX5_told_18 rfl (lv_at hl 0 rfl) ?_
  refine va_get (D := dd) (ci := 5) (v := .int (nI 0)) (C := RX5) (T := TX5) (N := 15) hx hb hts hin_X5 hown hK.1 hP 0 rfl rfl 0 (by decide) hf_48 (fun _ h9 => h9) rfl dX5_told_19 ?_
  refine nr_if_le (tgt := 27) hx hb (by omega) dX5_told_22 (by decide) (fun c_22 => ?_) (fun c_22 => absurd c_22 (by omega))
  refine lv_iconst (v := nI 0) hx hb dX5_told_27 (by decide) ?_
  refine lv_istore_n (lv' := [(2, .int (nI 0)), (0, .ref g0), (1, .int (nI 2))]) hx hb dX5_told_28 rfl hl (by decide) rfl (fun ls hl => ?_)
  refine lv_bipush (v := nI 8) hx hb dX5_told_29 (by decide) ?_
  refine lv_istore_n (lv' := [(3, .int (nI 8)), (2, .int (nI 0)), (0, .ref g0), (1, .int (nI 2))]) hx hb dX5_told_31 rfl hl (by decide) rfl (fun ls hl => ?_)
  refine lv_iload_n hx hb dX5_told_32 rfl (lv_at hl 0 rfl) ?_
  refine lv_bipush (v := nI 64) hx hb dX5_told_33 (by decide) ?_
  refine nr_ge (tgt := 66) hx hb (by omega) (by omega) dX5_told_35 (by decide) (fun c_35 => absurd c_35 (by omega)) (fun c_35 => ?_)
  refine lv_iload_n hx hb dX5_told_38 rfl (lv_at hl 3 rfl) ?_
  refine lv_iconst (v := nI 1) hx hb dX5_told_39 (by decide) ?_
  refine nr_ne (tgt := 66) hx hb (by omega) (by omega) dX5_told_40 (by decide) (fun c_40 => ?_) (fun c_40 => absurd c_40 (by omega))
  refine lv_iconst (v := nI 0) hx hb dX5_told_66 (by decide) ?_
  refine lv_istore_n (lv' := [(3, .int (nI 0)), (2, .int (nI 0)), (0, .ref g0), (1, .int (nI 2))]) hx hb dX5_told_67 rfl hl (by decide) rfl (fun ls hl => ?_)
  have loop_1 : ∀ (n k : Nat), k ≤ 32 → 32 + 1 ≤ k + n → ∀ (H : Heap) (locs : List Loc), va_P dd vwCl [(g0, .inr (5, [.int (nI 0), .ref qD, .ref qT, .int (nI U), .int (pI le wl), .int wd, .ref qN, .ref qO, .ref qS, .ref qC, .ref qP, .ref qG, .ref qB, .ref qF, .ref qX])), (qD, .inl (cI, 4096, .inl (aN D))), (qT, .inl (cZ, 64, .inl (aB T)))] H → va_D A [(g0, .inr (5, [.int (nI 0), .ref qD, .ref qT, .int (nI U), .int (pI le wl), .int wd, .ref qN, .ref qO, .ref qS, .ref qC, .ref qP, .ref qG, .ref qB, .ref qF, .ref qX])), (qD, .inl (cI, 4096, .inl (aN D))), (qT, .inl (cZ, 64, .inl (aB T)))] → va_S A s.heap H locs → ∀ ls : Array Slot, lv_has ls 4 [(3, .int (nI k)), (2, .int (nI (cnt (frB D) k))), (0, .ref g0), (1, .int (nI 2))] → W p l e (({ frames := 2, cells := 0, slots := 0, locals := 100 } : Room)) s m ([.ref g0, .int (nI 2)] : List Value).toArray below meth c H locs 0 0 (MQ below (va_Qi (fun (r : Int32) (u : Unit) => r = mTold D T wd 2) (fun u t => qa dd A [(g0, .inr (5, [.int (nI 0), .ref qD, .ref qT, .int (nI U), .int (pI le wl), .int wd, .ref qN, .ref qO, .ref qS, .ref qC, .ref qP, .ref qG, .ref qB, .ref qF, .ref qX])), (qD, .inl (cI, 4096, .inl (aN D))), (qT, .inl (cZ, 64, .inl (aB T)))] t) A) ([.ref g0, .int (nI 2)] : List Value).toArray s 0 0 A) (F0 m 68 ls []) := by
    intro n
    induction n with
    | zero => intro k h1 h2; exact absurd h2 (by omega)
    | succ n ih =>
      intro k hk_k hn_k H locs hP hD hS ls hl
      have ih_2 := ih
      refine lv_iload_n hx hb dX5_told_68 rfl (lv_at hl 0 rfl) ?_
      refine lv_bipush (v := nI 32) hx hb dX5_told_69 (by decide) ?_
      refine nr_ge (tgt := 101) hx hb (by omega) (by omega) dX5_told_71 (by decide) (fun c_71 => ?_) (fun c_71 => ?_)
      · have ek_k : k = 32 := by omega
        subst ek_k
        refine lv_iload_n hx hb dX5_told_101 rfl (lv_at hl 3 rfl) ?_
        refine nr_if_ne (tgt := 112) hx hb (by omega) dX5_told_102 (by decide) (fun c_102 => ?_) (fun c_102 => absurd c_102 (by omega))
        refine lv_iload_n hx hb dX5_told_112 rfl (lv_at hl 3 rfl) ?_
        refine lv_iconst (v := nI 3) hx hb dX5_told_113 (by decide) ?_
        refine nr_ne (tgt := 124) hx hb (by omega) (by omega) dX5_told_114 (by decide) (fun c_114 => ?_) (fun c_114 => absurd c_114 (by omega))
        refine lv_iload_n hx hb dX5_told_124 rfl (lv_at hl 1 rfl) ?_
        have hP9 := hP.sub (ws' := [(g0, .inr (5, [.int (nI 0), .ref qD, .ref qT, .int (nI U), .int (pI le wl), .int wd, .ref qN, .ref qO, .ref qS, .ref qC, .ref qP, .ref qG, .ref qB, .ref qF, .ref qX])), (qD, .inl (cI, 4096, .inl (aN D))), (qT, .inl (cZ, 64, .inl (aB T)))]) [0, 1, 2] rfl
        have hD9 := hD.sub (ws' := [(g0, .inr (5, [.int (nI 0), .ref qD, .ref qT, .int (nI U), .int (pI le wl), .int wd, .ref qN, .ref qO, .ref qS, .ref qC, .ref qP, .ref qG, .ref qB, .ref qF, .ref qX])), (qD, .inl (cI, 4096, .inl (aN D))), (qT, .inl (cZ, 64, .inl (aB T)))]) [0, 1, 2] (by decide) rfl
        exact W.iret (v := nI (cnt (frB D) 32)) hx hb hr (fun t ht hW => ⟨⟨nI (cnt (frB D) 32), (), rfl, by simp [mTold], by rw [ht]; exact hP9, hD9⟩, hS.F ht⟩) hS.2.2 dX5_told_125
      · refine lv_iload_n hx hb dX5_told_74 rfl (lv_at hl 3 rfl) ?_
        refine lv_iconst (v := nI 2) hx hb dX5_told_75 (by decide) ?_
        refine nr_ne (tgt := 101) hx hb (by omega) (by omega) dX5_told_76 (by decide) (fun c_76 => absurd c_76 (by omega)) (fun c_76 => ?_)
        refine lv_aload_n hx hb dX5_told_79 rfl (lv_at hl 2 rfl) ?_
        refine lv_iload_n hx hb dX5_told_80 rfl (lv_at hl 0 rfl) ?_
        refine cr_i (va_runV (As := [.int (nI k)]) (rest := []) ⟨hx, hb, hml, hown, hts⟩ (kX5_isFree l dd cI cZ cR cJ g0 0 U le wl wd qD qT qN qO qS qC qP qG qB qF qX D k (by omega) hDb) (cwV 1 hts gX5_told_X5_isFree rfl rfl rfl (by decide +kernel) ⟨Nat.le_of_ble_eq_true rfl, Nat.le_of_ble_eq_true rfl⟩) (pv_c hK hP 0 rfl (ci := 5) rfl [0, 1] rfl) rfl rfl hl.1 rfl (lv_room (Nat.le_of_ble_eq_true rfl)) dX5_told_81 ⟨Nat.zero_le _, Nat.zero_le _⟩) ?_
        refine br_if_eq (tgt := 93) hx hb dX5_told_84 (by decide) (fun c_84 => ?_) (fun c_84 => ?_)
        · refine lv_iload_n hx hb dX5_told_93 rfl (lv_at hl 1 rfl) ?_
          refine lv_istore_n (lv' := [(2, .int (nI (cnt (frB D) k))), (3, .int (nI k)), (0, .ref g0), (1, .int (nI 2))]) hx hb dX5_told_94 rfl hl (by decide) rfl (fun ls hl => ?_)
          refine lv_iinc (v := nI (k + 1)) (lv' := [(3, .int (nI (k + 1))), (2, .int (nI (cnt (frB D) k))), (0, .ref g0), (1, .int (nI 2))]) hx hb dX5_told_95 hl (k := 1) rfl (nr_inc _ _ (by omega)) (by decide) rfl (fun ls hl => ?_)
          refine lv_goto (tgt := 68) hx hb dX5_told_98 (by decide) ?_
          rw [show cnt (frB D) k = cnt (frB D) (k + 1) by simp [cnt, c_84]] at hl
          exact ih_2 (k + 1) (by omega) (by omega) _ _ hP hD hS ls (lv_sub hl [0, 1, 2, 3] rfl)
        · refine lv_iload_n hx hb dX5_told_87 rfl (lv_at hl 1 rfl) ?_
          refine lv_iconst (v := nI 1) hx hb dX5_told_88 (by decide) ?_
          refine nr_iadd (cnt (frB D) k + 1) (by omega) hx hb dX5_told_89 ?_
          refine lv_goto (tgt := 94) hx hb dX5_told_90 (by decide) ?_
          refine lv_istore_n (lv' := [(2, .int (nI (cnt (frB D) k + 1))), (3, .int (nI k)), (0, .ref g0), (1, .int (nI 2))]) hx hb dX5_told_94 rfl hl (by decide) rfl (fun ls hl => ?_)
          refine lv_iinc (v := nI (k + 1)) (lv' := [(3, .int (nI (k + 1))), (2, .int (nI (cnt (frB D) k + 1))), (0, .ref g0), (1, .int (nI 2))]) hx hb dX5_told_95 hl (k := 1) rfl (nr_inc _ _ (by omega)) (by decide) rfl (fun ls hl => ?_)
          refine lv_goto (tgt := 68) hx hb dX5_told_98 (by decide) ?_
          rw [show cnt (frB D) k + 1 = cnt (frB D) (k + 1) by simp [cnt, c_84]] at hl
          exact ih_2 (k + 1) (by omega) (by omega) _ _ hP hD hS ls (lv_sub hl [0, 1, 2, 3] rfl)
  exact loop_1 (32 + 1) 0 (by omega) (by omega) _ _ hP hD hS ls (lv_sub hl [0, 1, 2, 3] rfl)

set_option maxHeartbeats 4000000 in
set_option maxRecDepth 100000 in
theorem kX5_told_3 (l : Launch) (dd : va_G) (cI cZ cR cJ : ClassId) (g0 : Nat) (th : Nat) (U : Nat) (le : Bool) (wl : Nat) (wd : Int32) (qD : Nat) (qT : Nat) (qN : Nat) (qO : Nat) (qS : Nat) (qC : Nat) (qP : Nat) (qG : Nat) (qB : Nat) (qF : Nat) (qX : Nat) (D : Nat → Nat) (T : Nat → Bool) (sz : Nat) (hDb : ∀ j, D j < 256) : Met l yX5_told wsX5_told ({ frames := 2, cells := 0, slots := 0, locals := 100 }) (va_Pc [.ref g0, .int (nI 3)] (qm dd cI cZ cR cJ sz [(g0, .inr (5, [.int (nI th), .ref qD, .ref qT, .int (nI U), .int (pI le wl), .int wd, .ref qN, .ref qO, .ref qS, .ref qC, .ref qP, .ref qG, .ref qB, .ref qF, .ref qX])), (qD, .inl (cI, 4096, .inl (aN D))), (qT, .inl (cZ, 64, .inl (aB T)))])) (va_Qi (fun (r : Int32) (u : Unit) => r = mTold D T wd 3) (fun u t => qa dd (va_A [(g0, .inr (5, [.int (nI th), .ref qD, .ref qT, .int (nI U), .int (pI le wl), .int wd, .ref qN, .ref qO, .ref qS, .ref qC, .ref qP, .ref qG, .ref qB, .ref qF, .ref qX])), (qD, .inl (cI, 4096, .inl (aN D))), (qT, .inl (cZ, 64, .inl (aB T)))] sz) [(g0, .inr (5, [.int (nI 0), .ref qD, .ref qT, .int (nI U), .int (pI le wl), .int wd, .ref qN, .ref qO, .ref qS, .ref qC, .ref qP, .ref qG, .ref qB, .ref qF, .ref qX])), (qD, .inl (cI, 4096, .inl (aN D))), (qT, .inl (cZ, 64, .inl (aB T)))] t) (va_A [(g0, .inr (5, [.int (nI th), .ref qD, .ref qT, .int (nI U), .int (pI le wl), .int wd, .ref qN, .ref qO, .ref qS, .ref qC, .ref qP, .ref qG, .ref qB, .ref qF, .ref qX])), (qD, .inl (cI, 4096, .inl (aN D))), (qT, .inl (cZ, 64, .inl (aB T)))] sz)) 0 0 (va_A [(g0, .inr (5, [.int (nI th), .ref qD, .ref qT, .int (nI U), .int (pI le wl), .int wd, .ref qN, .ref qO, .ref qS, .ref qC, .ref qP, .ref qG, .ref qB, .ref qF, .ref qX])), (qD, .inl (cI, 4096, .inl (aN D))), (qT, .inl (cZ, 64, .inl (aB T)))] sz) := by
  refine mk_mut (cc := cX5_told) (maxL := 4) (ret := (some .int)) (Qf := fun A => va_Qi (fun (r : Int32) (u : Unit) => r = mTold D T wd 3) (fun u t => qa dd A [(g0, .inr (5, [.int (nI 0), .ref qD, .ref qT, .int (nI U), .int (pI le wl), .int wd, .ref qN, .ref qO, .ref qS, .ref qC, .ref qP, .ref qG, .ref qB, .ref qF, .ref qX])), (qD, .inl (cI, 4096, .inl (aN D))), (qT, .inl (cZ, 64, .inl (aB T)))] t) A) (by decide) rfl (Nat.le_of_ble_eq_true rfl) ?_
  intro p e s m below meth c A hx hb hr hts hown hlocks hml hin hP hD hA hS hK ls hl
  have hown : s.vm.findClass RX5 = some m.cls := hown
  have hl : lv_has ls 4 [(0, .ref g0), (1, .int (nI 3))] := hl
  have hf_48 := hts (.fieldLink RX5 48 "RecordSystemModel" "thrown" "I") (by decide +kernel)
  have hin_X5 : ∀ w ∈ wsX50, w ∈ wsX5_told := by decide +kernel
  have hf_62 := hts (.fieldLink RX5 62 "RecordSystemModel" "writes" "I") (by decide +kernel)
  refine lv_aload_n hx hb dX5_told_0 rfl (lv_at hl 0 rfl) ?_
  refine lv_iload_n hx hb dX5_told_1 rfl (lv_at hl 1 rfl) ?_
  refine nr_if_lt (tgt := 10) hx hb (by omega) dX5_told_2 (by decide) ?_
  refine lv_iload_n hx hb dX5_told_5 rfl (lv_at hl 1 rfl) ?_
  refine lv_iconst (v := nI 3) hx hb dX5_told_6 (by decide) ?_
  refine nr_le (tgt := 14) hx hb (by omega) (by omega) dX5_told_7 (by decide) (fun c_7 => ?_) (fun c_7 => absurd c_7 (by omega))
  refine lv_iconst (v := nI 0) hx hb dX5_told_14 (by decide) ?_
  refine va_put (D := dd) (ci := 5) (v := .int (nI 0)) (ty := .int) (C := RX5) (T := TX5) (N := 15) hx hb hts hin_X5 tyX5 tyX5_ok nmX5 hown hK.1 hP hD hS 0 rfl rfl 0 (by decide) hf_48 (fun _ h9 => h9) rfl (by decide +kernel) rfl rfl (Nat.le_of_ble_eq_true rfl) dX5_told_15 (fun H locs hP hD hS => ?_)
  have hP : va_P dd vwCl [(g0, .inr (5, [.int (nI 0), .ref qD, .ref qT, .int (nI U), .int (pI le wl), .int wd, .ref qN, .ref qO, .ref qS, .ref qC, .ref qP, .ref qG, .ref qB, .ref qF, .ref qX])), (qD, .inl (cI, 4096, .inl (aN D))), (qT, .inl (cZ, 64, .inl (aB T)))] H := hP
  have hD : va_D A [(g0, .inr (5, [.int (nI 0), .ref qD, .ref qT, .int (nI U), .int (pI le wl), .int wd, .ref qN, .ref qO, .ref qS, .ref qC, .ref qP, .ref qG, .ref qB, .ref qF, .ref qX])), (qD, .inl (cI, 4096, .inl (aN D))), (qT, .inl (cZ, 64, .inl (aB T)))] := hD
  refine lv_aload_n hx hb dX5_told_18 rfl (lv_at hl 0 rfl) ?_
  refine va_get (D := dd) (ci := 5) (v := .int (nI 0)) (C := RX5) (T := TX5) (N := 15) hx hb hts hin_X5 hown hK.1 hP 0 rfl rfl 0 (by decide) hf_48 (fun _ h9 => h9) rfl dX5_told_19 ?_
  refine nr_if_le (tgt := 27) hx hb (by omega) dX5_told_22 (by decide) (fun c_22 => ?_) (fun c_22 => absurd c_22 (by omega))
  refine lv_iconst (v := nI 0) hx hb dX5_told_27 (by decide) ?_
  refine lv_istore_n (lv' := [(2, .int (nI 0)), (0, .ref g0), (1, .int (nI 3))]) hx hb dX5_told_28 rfl hl (by decide) rfl (fun ls hl => ?_)
  refine lv_bipush (v := nI 8) hx hb dX5_told_29 (by decide) ?_
  refine lv_istore_n (lv' := [(3, .int (nI 8)), (2, .int (nI 0)), (0, .ref g0), (1, .int (nI 3))]) hx hb dX5_told_31 rfl hl (by decide) rfl (fun ls hl => ?_)
  refine lv_iload_n hx hb dX5_told_32 rfl (lv_at hl 0 rfl) ?_
  refine lv_bipush (v := nI 64) hx hb dX5_told_33 (by decide) ?_
  refine nr_ge (tgt := 66) hx hb (by omega) (by omega) dX5_told_35 (by decide) (fun c_35 => absurd c_35 (by omega)) (fun c_35 => ?_)
  refine lv_iload_n hx hb dX5_told_38 rfl (lv_at hl 3 rfl) ?_
  refine lv_iconst (v := nI 1) hx hb dX5_told_39 (by decide) ?_
  refine nr_ne (tgt := 66) hx hb (by omega) (by omega) dX5_told_40 (by decide) (fun c_40 => ?_) (fun c_40 => absurd c_40 (by omega))
  refine lv_iconst (v := nI 0) hx hb dX5_told_66 (by decide) ?_
  refine lv_istore_n (lv' := [(3, .int (nI 0)), (2, .int (nI 0)), (0, .ref g0), (1, .int (nI 3))]) hx hb dX5_told_67 rfl hl (by decide) rfl (fun ls hl => ?_)
  refine lv_iload_n hx hb dX5_told_68 rfl (lv_at hl 0 rfl) ?_
  refine lv_bipush (v := nI 32) hx hb dX5_told_69 (by decide) ?_
  refine nr_ge (tgt := 101) hx hb (by omega) (by omega) dX5_told_71 (by decide) (fun c_71 => absurd c_71 (by omega)) (fun c_71 => ?_)
  refine lv_iload_n hx hb dX5_told_74 rfl (lv_at hl 3 rfl) ?_
  refine lv_iconst (v := nI 2) hx hb dX5_told_75 (by decide) ?_
  refine nr_ne (tgt := 101) hx hb (by omega) (by omega) dX5_told_76 (by decide) (fun c_76 => ?_) (fun c_76 => absurd c_76 (by omega))
  refine lv_iload_n hx hb dX5_told_101 rfl (lv_at hl 3 rfl) ?_
  refine nr_if_ne (tgt := 112) hx hb (by omega) dX5_told_102 (by decide) (fun c_102 => ?_) (fun c_102 => absurd c_102 (by omega))
  refine lv_iload_n hx hb dX5_told_112 rfl (lv_at hl 3 rfl) ?_
  refine lv_iconst (v := nI 3) hx hb dX5_told_113 (by decide) ?_
  refine nr_ne (tgt := 124) hx hb (by omega) (by omega) dX5_told_114 (by decide) (fun c_114 => absurd c_114 (by omega)) (fun c_114 => ?_)
  refine lv_aload_n hx hb dX5_told_117 rfl (lv_at hl 2 rfl) ?_
  refine va_get (D := dd) (ci := 5) (v := .int wd) (C := RX5) (T := TX5) (N := 15) hx hb hts hin_X5 hown hK.1 hP 0 rfl rfl 5 (by decide) hf_62 (fun _ h9 => h9) rfl dX5_told_118 ?_
  refine lv_goto (tgt := 125) hx hb dX5_told_121 (by decide) ?_
  have hP9 := hP.sub (ws' := [(g0, .inr (5, [.int (nI 0), .ref qD, .ref qT, .int (nI U), .int (pI le wl), .int wd, .ref qN, .ref qO, .ref qS, .ref qC, .ref qP, .ref qG, .ref qB, .ref qF, .ref qX])), (qD, .inl (cI, 4096, .inl (aN D))), (qT, .inl (cZ, 64, .inl (aB T)))]) [0, 1, 2] rfl
  have hD9 := hD.sub (ws' := [(g0, .inr (5, [.int (nI 0), .ref qD, .ref qT, .int (nI U), .int (pI le wl), .int wd, .ref qN, .ref qO, .ref qS, .ref qC, .ref qP, .ref qG, .ref qB, .ref qF, .ref qX])), (qD, .inl (cI, 4096, .inl (aN D))), (qT, .inl (cZ, 64, .inl (aB T)))]) [0, 1, 2] (by decide) rfl
  exact W.iret (v := wd) hx hb hr (fun t ht hW => ⟨⟨wd, (), rfl, by simp [mTold], by rw [ht]; exact hP9, hD9⟩, hS.F ht⟩) hS.2.2 dX5_told_125
