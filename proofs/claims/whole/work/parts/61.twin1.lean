set_option maxHeartbeats 4000000 in
set_option maxRecDepth 100000 in
theorem kX5_thrown (l : Launch) (dd : va_G) (cI cZ cR cJ : ClassId) (g0 : Nat) (th : Nat) (U : Nat) (le : Bool) (wl : Nat) (wd : Int32) (qD : Nat) (qT : Nat) (qN : Nat) (qO : Nat) (qS : Nat) (qC : Nat) (qP : Nat) (qG : Nat) (qB : Nat) (qF : Nat) (qX : Nat) : Met l yX5_thrown wsX5_thrown ({ frames := 0, cells := 0, slots := 0, locals := 0 }) (va_Pc [.ref g0] (qc dd cI cZ cR cJ [(g0, .inr (5, [.int (nI th), .ref qD, .ref qT, .int (nI U), .int (pI le wl), .int wd, .ref qN, .ref qO, .ref qS, .ref qC, .ref qP, .ref qG, .ref qB, .ref qF, .ref qX]))])) (QcRead (nI th)) 0 0 (fun _ => False) := by
  refine mk_met (cc := cX5_thrown) (maxL := 1) (ret := (some .int)) (by decide) rfl (Nat.le_of_ble_eq_true rfl) ?_
  intro p e s m below meth c hx hb hr hts hown hlocks hml hin hv ls hl
  obtain ⟨hP, hK⟩ := hv
  have hown : s.vm.findClass RX5 = some m.cls := hown
  have hl : lv_has ls 1 [(0, .ref g0)] := hl
  have hf_48 := hts (.fieldLink RX5 48 "RecordSystemModel" "thrown" "I") (by decide +kernel)
  have hin_X5 : ∀ w ∈ wsX50, w ∈ wsX5_thrown := by decide +kernel
  refine lv_aload_n hx hb dX5_thrown_0 rfl (lv_at hl 0 rfl) ?_
  refine va_get (D := dd) (ci := 5) (v := .int (nI th)) (C := RX5) (T := TX5) (N := 15) hx hb hts hin_X5 hown hK.1 hP 0 rfl rfl 0 (by decide) hf_48 (fun _ h9 => h9) rfl dX5_thrown_1 ?_
  have hR : nI th = nI th := rfl
  exact W.iret (v := nI th) hx hb hr (fun t ht hW => ⟨congrArg (fun z => Outcome.returned (some (Value.int z))) hR, ht⟩) (fun q h => nomatch h) dX5_thrown_4

set_option maxHeartbeats 4000000 in
set_option maxRecDepth 100000 in
theorem kX5_isFree (l : Launch) (dd : va_G) (cI cZ cR cJ : ClassId) (g0 : Nat) (th : Nat) (U : Nat) (le : Bool) (wl : Nat) (wd : Int32) (qD : Nat) (qT : Nat) (qN : Nat) (qO : Nat) (qS : Nat) (qC : Nat) (qP : Nat) (qG : Nat) (qB : Nat) (qF : Nat) (qX : Nat) (D : Nat → Nat) (en : Nat) (he : en < 32) (hDb : ∀ j, D j < 256) : Met l yX5_isFree wsX5_isFree ({ frames := 0, cells := 0, slots := 0, locals := 0 }) (va_Pc [.ref g0, .int (nI en)] (qc dd cI cZ cR cJ [(g0, .inr (5, [.int (nI th), .ref qD, .ref qT, .int (nI U), .int (pI le wl), .int wd, .ref qN, .ref qO, .ref qS, .ref qC, .ref qP, .ref qG, .ref qB, .ref qF, .ref qX])), (qD, .inl (cI, 4096, .inl (aN D)))])) (QcRead (bI (frB D en))) 0 0 (fun _ => False) := by
  refine mk_met (cc := cX5_isFree) (maxL := 2) (ret := (some .boolean)) (by decide) rfl (Nat.le_of_ble_eq_true rfl) ?_
  intro p e s m below meth c hx hb hr hts hown hlocks hml hin hv ls hl
  obtain ⟨hP, hK⟩ := hv
  have hown : s.vm.findClass RX5 = some m.cls := hown
  have hl : lv_has ls 2 [(0, .ref g0), (1, .int (nI en))] := hl
  have hf_7 := hts (.fieldLink RX5 7 "RecordSystemModel" "disk" "[I") (by decide +kernel)
  have hin_X5 : ∀ w ∈ wsX50, w ∈ wsX5_isFree := by decide +kernel
  refine lv_aload_n hx hb dX5_isFree_0 rfl (lv_at hl 0 rfl) ?_
  refine va_get (D := dd) (ci := 5) (v := .ref qD) (C := RX5) (T := TX5) (N := 15) hx hb hts hin_X5 hown hK.1 hP 0 rfl rfl 1 (by decide) hf_7 (fun _ h9 => h9) rfl dX5_isFree_1 ?_
  refine lv_bipush (v := nI 16) hx hb dX5_isFree_4 (by decide) ?_
  refine lv_iload_n hx hb dX5_isFree_6 rfl (lv_at hl 1 rfl) ?_
  refine nr_imul (16 * en) (by omega) hx hb dX5_isFree_7 ?_
  refine nr_iald (f := D) hx hb hK hP 1 rfl (by omega) (by decide) dX5_isFree_8 ?_
  have hv_1 := hDb (16 * en)
  refine lv_bipush (v := nI 15) hx hb dX5_isFree_9 (by decide) ?_
  refine nr_le (tgt := 18) hx hb (by omega) (by omega) dX5_isFree_11 (by decide) (fun c_11 => ?_) (fun c_11 => ?_)
  · refine lv_iconst (v := nI 0) hx hb dX5_isFree_18 (by decide) ?_
    have hR : nI 0 = bI (frB D en) := bI_zero (by simp [frB]; omega)
    exact W.zret (v := nI 0) hx hb hr (by decide) (fun t ht hW => ⟨congrArg (fun z => Outcome.returned (some (Value.int z))) hR, ht⟩) (fun q h => nomatch h) dX5_isFree_19
  · refine lv_iconst (v := nI 1) hx hb dX5_isFree_14 (by decide) ?_
    refine lv_goto (tgt := 19) hx hb dX5_isFree_15 (by decide) ?_
    have hR : nI 1 = bI (frB D en) := bI_one (by simp [frB]; omega)
    exact W.zret (v := nI 1) hx hb hr (by decide) (fun t ht hW => ⟨congrArg (fun z => Outcome.returned (some (Value.int z))) hR, ht⟩) (fun q h => nomatch h) dX5_isFree_19

set_option maxHeartbeats 4000000 in
set_option maxRecDepth 100000 in
theorem kX5_fits (l : Launch) (dd : va_G) (cI cZ cR cJ : ClassId) (g0 : Nat) (th : Nat) (U : Nat) (le : Bool) (wl : Nat) (wd : Int32) (qD : Nat) (qT : Nat) (qN : Nat) (qO : Nat) (qS : Nat) (qC : Nat) (qP : Nat) (qG : Nat) (qB : Nat) (qF : Nat) (qX : Nat) (D : Nat → Nat) (nms : Nat → Nat → Nat) (ci : Nat) (en : Nat) (hci : ci < 4) (he : en < 32) (hDb : ∀ j, D j < 256) (hnb : ∀ i j, nms i j < 128) (hUb : U < 16) : Met l yX5_fits wsX5_fits ({ frames := 0, cells := 0, slots := 0, locals := 0 }) (va_Pc [.ref g0, .int (nI ci), .int (nI en)] (qc dd cI cZ cR cJ [(g0, .inr (5, [.int (nI th), .ref qD, .ref qT, .int (nI U), .int (pI le wl), .int wd, .ref qN, .ref qO, .ref qS, .ref qC, .ref qP, .ref qG, .ref qB, .ref qF, .ref qX])), (qD, .inl (cI, 4096, .inl (aN D))), (qN, .inl (cI, 24, .inl (aN (fN nms))))])) (QcRead (bI (ftB D U (nms ci) en))) 0 0 (fun _ => False) := by
  refine mk_met (cc := cX5_fits) (maxL := 6) (ret := (some .boolean)) (by decide) rfl (Nat.le_of_ble_eq_true rfl) ?_
  intro p e s m below meth c hx hb hr hts hown hlocks hml hin hv ls hl
  obtain ⟨hP, hK⟩ := hv
  have hown : s.vm.findClass RX5 = some m.cls := hown
  have hl : lv_has ls 6 [(0, .ref g0), (1, .int (nI ci)), (2, .int (nI en))] := hl
  have hf_7 := hts (.fieldLink RX5 7 "RecordSystemModel" "disk" "[I") (by decide +kernel)
  have hin_X5 : ∀ w ∈ wsX50, w ∈ wsX5_fits := by decide +kernel
  have hf_51 := hts (.fieldLink RX5 51 "RecordSystemModel" "user" "I") (by decide +kernel)
  have hf_21 := hts (.fieldLink RX5 21 "RecordSystemModel" "names" "[I") (by decide +kernel)
  refine lv_aload_n hx hb dX5_fits_0 rfl (lv_at hl 0 rfl) ?_
  refine va_get (D := dd) (ci := 5) (v := .ref qD) (C := RX5) (T := TX5) (N := 15) hx hb hts hin_X5 hown hK.1 hP 0 rfl rfl 1 (by decide) hf_7 (fun _ h9 => h9) rfl dX5_fits_1 ?_
  refine lv_bipush (v := nI 16) hx hb dX5_fits_4 (by decide) ?_
  refine lv_iload_n hx hb dX5_fits_6 rfl (lv_at hl 2 rfl) ?_
  refine nr_imul (16 * en) (by omega) hx hb dX5_fits_7 ?_
  refine nr_iald (f := D) hx hb hK hP 1 rfl (by omega) (by decide) dX5_fits_8 ?_
  have hv_1 := hDb (16 * en)
  refine lv_aload_n hx hb dX5_fits_9 rfl (lv_at hl 0 rfl) ?_
  refine va_get (D := dd) (ci := 5) (v := .int (nI U)) (C := RX5) (T := TX5) (N := 15) hx hb hts hin_X5 hown hK.1 hP 0 rfl rfl 3 (by decide) hf_51 (fun _ h9 => h9) rfl dX5_fits_10 ?_
  refine nr_ne (tgt := 20) hx hb (by omega) (by omega) dX5_fits_13 (by decide) (fun c_13 => ?_) (fun c_13 => ?_)
  · refine lv_iconst (v := nI 0) hx hb dX5_fits_20 (by decide) ?_
    refine lv_istore_n (lv' := [(3, .int (nI 0)), (0, .ref g0), (1, .int (nI ci)), (2, .int (nI en))]) hx hb dX5_fits_21 rfl hl (by decide) rfl (fun ls hl => ?_)
    refine lv_iconst (v := nI 0) hx hb dX5_fits_22 (by decide) ?_
    refine lv_istore (lv' := [(4, .int (nI 0)), (3, .int (nI 0)), (0, .ref g0), (1, .int (nI ci)), (2, .int (nI en))]) hx hb dX5_fits_23 hl (by decide) rfl (fun ls hl => ?_)
    have loop_2 : ∀ (n k : Nat), k ≤ 6 → 6 + 1 ≤ k + n → ∀ ls : Array Slot, lv_has ls 6 [(4, .int (nI k)), (3, .int (bI (ftP D U (nms ci) en k))), (0, .ref g0), (1, .int (nI ci)), (2, .int (nI en))] → W p l e (({ frames := 0, cells := 0, slots := 0, locals := 0 } : Room)) s m ([.ref g0, .int (nI ci), .int (nI en)] : List Value).toArray below meth c s.heap [] 0 0 (MQ below (QcRead (bI (ftB D U (nms ci) en))) ([.ref g0, .int (nI ci), .int (nI en)] : List Value).toArray s 0 0 (fun _ => False)) (F0 m 25 ls []) := by
      intro n
      induction n with
      | zero => intro k h1 h2; exact absurd h2 (by omega)
      | succ n ih =>
        intro k hk_k hn_k ls hl
        have ih_3 := ih
        refine lv_iload hx hb dX5_fits_25 (lv_at hl 0 rfl) ?_
        refine lv_bipush (v := nI 6) hx hb dX5_fits_27 (by decide) ?_
        refine nr_ge (tgt := 91) hx hb (by omega) (by omega) dX5_fits_29 (by decide) (fun c_29 => ?_) (fun c_29 => ?_)
        · have ek_k : k = 6 := by omega
          subst ek_k
          refine lv_iload_n hx hb dX5_fits_91 rfl (lv_at hl 1 rfl) ?_
          have hR : bI (ftP D U (nms ci) en 6) = bI (ftB D U (nms ci) en) := rfl
          exact W.zret (v := bI (ftP D U (nms ci) en 6)) hx hb hr (bI_nar _) (fun t ht hW => ⟨congrArg (fun z => Outcome.returned (some (Value.int z))) hR, ht⟩) (fun q h => nomatch h) dX5_fits_92
        · refine lv_aload_n hx hb dX5_fits_32 rfl (lv_at hl 2 rfl) ?_
          refine va_get (D := dd) (ci := 5) (v := .ref qN) (C := RX5) (T := TX5) (N := 15) hx hb hts hin_X5 hown hK.1 hP 0 rfl rfl 6 (by decide) hf_21 (fun _ h9 => h9) rfl dX5_fits_33 ?_
          refine lv_bipush (v := nI 6) hx hb dX5_fits_36 (by decide) ?_
          refine lv_iload_n hx hb dX5_fits_38 rfl (lv_at hl 3 rfl) ?_
          refine nr_imul (6 * ci) (by omega) hx hb dX5_fits_39 ?_
          refine lv_iload hx hb dX5_fits_40 (lv_at hl 0 rfl) ?_
          refine nr_iadd (6 * ci + k) (by omega) hx hb dX5_fits_42 ?_
          refine nr_iald (f := fN nms) hx hb hK hP 2 rfl (by omega) (by decide) dX5_fits_43 ?_
          refine nr_top (b := nms ci k) (fN_at (by omega)) ?_
          have hv_4 := hnb ci k
          refine lv_istore (lv' := [(5, .int (nI (nms ci k))), (4, .int (nI k)), (3, .int (bI (ftP D U (nms ci) en k))), (0, .ref g0), (1, .int (nI ci)), (2, .int (nI en))]) hx hb dX5_fits_44 hl (by decide) rfl (fun ls hl => ?_)
          refine lv_iload_n hx hb dX5_fits_46 rfl (lv_at hl 2 rfl) ?_
          refine br_if_eq (tgt := 83) hx hb dX5_fits_47 (by decide) (fun c_47 => ?_) (fun c_47 => ?_)
          · refine lv_iconst (v := nI 0) hx hb dX5_fits_83 (by decide) ?_
            refine lv_istore_n (lv' := [(3, .int (nI 0)), (5, .int (nI (nms ci k))), (4, .int (nI k)), (0, .ref g0), (1, .int (nI ci)), (2, .int (nI en))]) hx hb dX5_fits_84 rfl hl (by decide) rfl (fun ls hl => ?_)
            refine lv_iinc (v := nI (k + 1)) (lv' := [(4, .int (nI (k + 1))), (3, .int (nI 0)), (5, .int (nI (nms ci k))), (0, .ref g0), (1, .int (nI ci)), (2, .int (nI en))]) hx hb dX5_fits_85 hl (k := 2) rfl (nr_inc _ _ (by omega)) (by decide) rfl (fun ls hl => ?_)
            refine lv_goto (tgt := 25) hx hb dX5_fits_88 (by decide) ?_
            exact ih_3 (k + 1) (by omega) (by omega) ls (by rw [← show nI 0 = bI (ftP D U (nms ci) en (k + 1)) from bI_zero (by rw [ftP_s, c_47]; rfl)]; exact lv_sub hl [0, 1, 3, 4, 5] rfl)
          · refine lv_iload hx hb dX5_fits_50 (lv_at hl 0 rfl) ?_
            refine lv_bipush (v := nI 63) hx hb dX5_fits_52 (by decide) ?_
            refine nr_eq (tgt := 79) hx hb (by omega) (by omega) dX5_fits_54 (by decide) (fun c_54 => ?_) (fun c_54 => ?_)
            · refine lv_iconst (v := nI 1) hx hb dX5_fits_79 (by decide) ?_
              refine lv_goto (tgt := 84) hx hb dX5_fits_80 (by decide) ?_
              refine lv_istore_n (lv' := [(3, .int (nI 1)), (5, .int (nI (nms ci k))), (4, .int (nI k)), (0, .ref g0), (1, .int (nI ci)), (2, .int (nI en))]) hx hb dX5_fits_84 rfl hl (by decide) rfl (fun ls hl => ?_)
              refine lv_iinc (v := nI (k + 1)) (lv' := [(4, .int (nI (k + 1))), (3, .int (nI 1)), (5, .int (nI (nms ci k))), (0, .ref g0), (1, .int (nI ci)), (2, .int (nI en))]) hx hb dX5_fits_85 hl (k := 2) rfl (nr_inc _ _ (by omega)) (by decide) rfl (fun ls hl => ?_)
              refine lv_goto (tgt := 25) hx hb dX5_fits_88 (by decide) ?_
              exact ih_3 (k + 1) (by omega) (by omega) ls (by rw [← show nI 1 = bI (ftP D U (nms ci) en (k + 1)) from bI_one (by rw [ftP_s, c_47]; simp [ltB]; omega)]; exact lv_sub hl [0, 1, 3, 4, 5] rfl)
            · refine lv_iload hx hb dX5_fits_57 (lv_at hl 0 rfl) ?_
              refine lv_aload_n hx hb dX5_fits_59 rfl (lv_at hl 3 rfl) ?_
              refine va_get (D := dd) (ci := 5) (v := .ref qD) (C := RX5) (T := TX5) (N := 15) hx hb hts hin_X5 hown hK.1 hP 0 rfl rfl 1 (by decide) hf_7 (fun _ h9 => h9) rfl dX5_fits_60 ?_
              refine lv_bipush (v := nI 16) hx hb dX5_fits_63 (by decide) ?_
              refine lv_iload_n hx hb dX5_fits_65 rfl (lv_at hl 5 rfl) ?_
              refine nr_imul (16 * en) (by omega) hx hb dX5_fits_66 ?_
              refine lv_iconst (v := nI 1) hx hb dX5_fits_67 (by decide) ?_
              refine nr_iadd (16 * en + 1) (by omega) hx hb dX5_fits_68 ?_
              refine lv_iload hx hb dX5_fits_69 (lv_at hl 1 rfl) ?_
              refine nr_iadd (16 * en + k + 1) (by omega) hx hb dX5_fits_71 ?_
              refine nr_iald (f := D) hx hb hK hP 1 rfl (by omega) (by decide) dX5_fits_72 ?_
              have hv_5 := hDb (16 * en + k + 1)
              refine lv_bipush (v := nI 127) hx hb dX5_fits_73 (by decide) ?_
              refine nr_iand127 (((D (16 * en + k + 1)) % 128)) (by omega) hx hb (by omega) dX5_fits_75 ?_
              refine nr_ne (tgt := 83) hx hb (by omega) (by omega) dX5_fits_76 (by decide) (fun c_76 => ?_) (fun c_76 => ?_)
              · refine lv_iconst (v := nI 0) hx hb dX5_fits_83 (by decide) ?_
                refine lv_istore_n (lv' := [(3, .int (nI 0)), (5, .int (nI (nms ci k))), (4, .int (nI k)), (0, .ref g0), (1, .int (nI ci)), (2, .int (nI en))]) hx hb dX5_fits_84 rfl hl (by decide) rfl (fun ls hl => ?_)
                refine lv_iinc (v := nI (k + 1)) (lv' := [(4, .int (nI (k + 1))), (3, .int (nI 0)), (5, .int (nI (nms ci k))), (0, .ref g0), (1, .int (nI ci)), (2, .int (nI en))]) hx hb dX5_fits_85 hl (k := 2) rfl (nr_inc _ _ (by omega)) (by decide) rfl (fun ls hl => ?_)
                refine lv_goto (tgt := 25) hx hb dX5_fits_88 (by decide) ?_
                exact ih_3 (k + 1) (by omega) (by omega) ls (by rw [← show nI 0 = bI (ftP D U (nms ci) en (k + 1)) from bI_zero (by rw [ftP_s, c_47]; simp [ltB]; omega)]; exact lv_sub hl [0, 1, 3, 4, 5] rfl)
              · refine lv_iconst (v := nI 1) hx hb dX5_fits_79 (by decide) ?_
                refine lv_goto (tgt := 84) hx hb dX5_fits_80 (by decide) ?_
                refine lv_istore_n (lv' := [(3, .int (nI 1)), (5, .int (nI (nms ci k))), (4, .int (nI k)), (0, .ref g0), (1, .int (nI ci)), (2, .int (nI en))]) hx hb dX5_fits_84 rfl hl (by decide) rfl (fun ls hl => ?_)
                refine lv_iinc (v := nI (k + 1)) (lv' := [(4, .int (nI (k + 1))), (3, .int (nI 1)), (5, .int (nI (nms ci k))), (0, .ref g0), (1, .int (nI ci)), (2, .int (nI en))]) hx hb dX5_fits_85 hl (k := 2) rfl (nr_inc _ _ (by omega)) (by decide) rfl (fun ls hl => ?_)
                refine lv_goto (tgt := 25) hx hb dX5_fits_88 (by decide) ?_
                exact ih_3 (k + 1) (by omega) (by omega) ls (by rw [← show nI 1 = bI (ftP D U (nms ci) en (k + 1)) from bI_one (by rw [ftP_s, c_47]; simp [ltB]; omega)]; exact lv_sub hl [0, 1, 3, 4, 5] rfl)
    exact loop_2 (6 + 1) 0 (by omega) (by omega) ls (by rw [← show nI 0 = bI (ftP D U (nms ci) en 0) from bI_zero (by simp [ftP, ftA]; omega)]; exact lv_sub hl [0, 1, 2, 3, 4] rfl)
  · refine lv_iconst (v := nI 1) hx hb dX5_fits_16 (by decide) ?_
    refine lv_goto (tgt := 21) hx hb dX5_fits_17 (by decide) ?_
    refine lv_istore_n (lv' := [(3, .int (nI 1)), (0, .ref g0), (1, .int (nI ci)), (2, .int (nI en))]) hx hb dX5_fits_21 rfl hl (by decide) rfl (fun ls hl => ?_)
    refine lv_iconst (v := nI 0) hx hb dX5_fits_22 (by decide) ?_
    refine lv_istore (lv' := [(4, .int (nI 0)), (3, .int (nI 1)), (0, .ref g0), (1, .int (nI ci)), (2, .int (nI en))]) hx hb dX5_fits_23 hl (by decide) rfl (fun ls hl => ?_)
    have loop_6 : ∀ (n k : Nat), k ≤ 6 → 6 + 1 ≤ k + n → ∀ ls : Array Slot, lv_has ls 6 [(4, .int (nI k)), (3, .int (bI (ftP D U (nms ci) en k))), (0, .ref g0), (1, .int (nI ci)), (2, .int (nI en))] → W p l e (({ frames := 0, cells := 0, slots := 0, locals := 0 } : Room)) s m ([.ref g0, .int (nI ci), .int (nI en)] : List Value).toArray below meth c s.heap [] 0 0 (MQ below (QcRead (bI (ftB D U (nms ci) en))) ([.ref g0, .int (nI ci), .int (nI en)] : List Value).toArray s 0 0 (fun _ => False)) (F0 m 25 ls []) := by
      intro n
      induction n with
      | zero => intro k h1 h2; exact absurd h2 (by omega)
      | succ n ih =>
        intro k hk_k hn_k ls hl
        have ih_7 := ih
        refine lv_iload hx hb dX5_fits_25 (lv_at hl 0 rfl) ?_
        refine lv_bipush (v := nI 6) hx hb dX5_fits_27 (by decide) ?_
        refine nr_ge (tgt := 91) hx hb (by omega) (by omega) dX5_fits_29 (by decide) (fun c_29 => ?_) (fun c_29 => ?_)
        · have ek_k : k = 6 := by omega
          subst ek_k
          refine lv_iload_n hx hb dX5_fits_91 rfl (lv_at hl 1 rfl) ?_
          have hR : bI (ftP D U (nms ci) en 6) = bI (ftB D U (nms ci) en) := rfl
          exact W.zret (v := bI (ftP D U (nms ci) en 6)) hx hb hr (bI_nar _) (fun t ht hW => ⟨congrArg (fun z => Outcome.returned (some (Value.int z))) hR, ht⟩) (fun q h => nomatch h) dX5_fits_92
        · refine lv_aload_n hx hb dX5_fits_32 rfl (lv_at hl 2 rfl) ?_
          refine va_get (D := dd) (ci := 5) (v := .ref qN) (C := RX5) (T := TX5) (N := 15) hx hb hts hin_X5 hown hK.1 hP 0 rfl rfl 6 (by decide) hf_21 (fun _ h9 => h9) rfl dX5_fits_33 ?_
          refine lv_bipush (v := nI 6) hx hb dX5_fits_36 (by decide) ?_
          refine lv_iload_n hx hb dX5_fits_38 rfl (lv_at hl 3 rfl) ?_
          refine nr_imul (6 * ci) (by omega) hx hb dX5_fits_39 ?_
          refine lv_iload hx hb dX5_fits_40 (lv_at hl 0 rfl) ?_
          refine nr_iadd (6 * ci + k) (by omega) hx hb dX5_fits_42 ?_
          refine nr_iald (f := fN nms) hx hb hK hP 2 rfl (by omega) (by decide) dX5_fits_43 ?_
          refine nr_top (b := nms ci k) (fN_at (by omega)) ?_
          have hv_8 := hnb ci k
          refine lv_istore (lv' := [(5, .int (nI (nms ci k))), (4, .int (nI k)), (3, .int (bI (ftP D U (nms ci) en k))), (0, .ref g0), (1, .int (nI ci)), (2, .int (nI en))]) hx hb dX5_fits_44 hl (by decide) rfl (fun ls hl => ?_)
          refine lv_iload_n hx hb dX5_fits_46 rfl (lv_at hl 2 rfl) ?_
          refine br_if_eq (tgt := 83) hx hb dX5_fits_47 (by decide) (fun c_47 => ?_) (fun c_47 => ?_)
          · refine lv_iconst (v := nI 0) hx hb dX5_fits_83 (by decide) ?_
            refine lv_istore_n (lv' := [(3, .int (nI 0)), (5, .int (nI (nms ci k))), (4, .int (nI k)), (0, .ref g0), (1, .int (nI ci)), (2, .int (nI en))]) hx hb dX5_fits_84 rfl hl (by decide) rfl (fun ls hl => ?_)
            refine lv_iinc (v := nI (k + 1)) (lv' := [(4, .int (nI (k + 1))), (3, .int (nI 0)), (5, .int (nI (nms ci k))), (0, .ref g0), (1, .int (nI ci)), (2, .int (nI en))]) hx hb dX5_fits_85 hl (k := 2) rfl (nr_inc _ _ (by omega)) (by decide) rfl (fun ls hl => ?_)
            refine lv_goto (tgt := 25) hx hb dX5_fits_88 (by decide) ?_
            exact ih_7 (k + 1) (by omega) (by omega) ls (by rw [← show nI 0 = bI (ftP D U (nms ci) en (k + 1)) from bI_zero (by rw [ftP_s, c_47]; rfl)]; exact lv_sub hl [0, 1, 3, 4, 5] rfl)
          · refine lv_iload hx hb dX5_fits_50 (lv_at hl 0 rfl) ?_
            refine lv_bipush (v := nI 63) hx hb dX5_fits_52 (by decide) ?_
            refine nr_eq (tgt := 79) hx hb (by omega) (by omega) dX5_fits_54 (by decide) (fun c_54 => ?_) (fun c_54 => ?_)
            · refine lv_iconst (v := nI 1) hx hb dX5_fits_79 (by decide) ?_
              refine lv_goto (tgt := 84) hx hb dX5_fits_80 (by decide) ?_
              refine lv_istore_n (lv' := [(3, .int (nI 1)), (5, .int (nI (nms ci k))), (4, .int (nI k)), (0, .ref g0), (1, .int (nI ci)), (2, .int (nI en))]) hx hb dX5_fits_84 rfl hl (by decide) rfl (fun ls hl => ?_)
              refine lv_iinc (v := nI (k + 1)) (lv' := [(4, .int (nI (k + 1))), (3, .int (nI 1)), (5, .int (nI (nms ci k))), (0, .ref g0), (1, .int (nI ci)), (2, .int (nI en))]) hx hb dX5_fits_85 hl (k := 2) rfl (nr_inc _ _ (by omega)) (by decide) rfl (fun ls hl => ?_)
              refine lv_goto (tgt := 25) hx hb dX5_fits_88 (by decide) ?_
              exact ih_7 (k + 1) (by omega) (by omega) ls (by rw [← show nI 1 = bI (ftP D U (nms ci) en (k + 1)) from bI_one (by rw [ftP_s, c_47]; simp [ltB]; omega)]; exact lv_sub hl [0, 1, 3, 4, 5] rfl)
            · refine lv_iload hx hb dX5_fits_57 (lv_at hl 0 rfl) ?_
              refine lv_aload_n hx hb dX5_fits_59 rfl (lv_at hl 3 rfl) ?_
              refine va_get (D := dd) (ci := 5) (v := .ref qD) (C := RX5) (T := TX5) (N := 15) hx hb hts hin_X5 hown hK.1 hP 0 rfl rfl 1 (by decide) hf_7 (fun _ h9 => h9) rfl dX5_fits_60 ?_
              refine lv_bipush (v := nI 16) hx hb dX5_fits_63 (by decide) ?_
              refine lv_iload_n hx hb dX5_fits_65 rfl (lv_at hl 5 rfl) ?_
              refine nr_imul (16 * en) (by omega) hx hb dX5_fits_66 ?_
              refine lv_iconst (v := nI 1) hx hb dX5_fits_67 (by decide) ?_
              refine nr_iadd (16 * en + 1) (by omega) hx hb dX5_fits_68 ?_
              refine lv_iload hx hb dX5_fits_69 (lv_at hl 1 rfl) ?_
              refine nr_iadd (16 * en + k + 1) (by omega) hx hb dX5_fits_71 ?_
              refine nr_iald (f := D) hx hb hK hP 1 rfl (by omega) (by decide) dX5_fits_72 ?_
              have hv_9 := hDb (16 * en + k + 1)
              refine lv_bipush (v := nI 127) hx hb dX5_fits_73 (by decide) ?_
              refine nr_iand127 (((D (16 * en + k + 1)) % 128)) (by omega) hx hb (by omega) dX5_fits_75 ?_
              refine nr_ne (tgt := 83) hx hb (by omega) (by omega) dX5_fits_76 (by decide) (fun c_76 => ?_) (fun c_76 => ?_)
              · refine lv_iconst (v := nI 0) hx hb dX5_fits_83 (by decide) ?_
                refine lv_istore_n (lv' := [(3, .int (nI 0)), (5, .int (nI (nms ci k))), (4, .int (nI k)), (0, .ref g0), (1, .int (nI ci)), (2, .int (nI en))]) hx hb dX5_fits_84 rfl hl (by decide) rfl (fun ls hl => ?_)
                refine lv_iinc (v := nI (k + 1)) (lv' := [(4, .int (nI (k + 1))), (3, .int (nI 0)), (5, .int (nI (nms ci k))), (0, .ref g0), (1, .int (nI ci)), (2, .int (nI en))]) hx hb dX5_fits_85 hl (k := 2) rfl (nr_inc _ _ (by omega)) (by decide) rfl (fun ls hl => ?_)
                refine lv_goto (tgt := 25) hx hb dX5_fits_88 (by decide) ?_
                exact ih_7 (k + 1) (by omega) (by omega) ls (by rw [← show nI 0 = bI (ftP D U (nms ci) en (k + 1)) from bI_zero (by rw [ftP_s, c_47]; simp [ltB]; omega)]; exact lv_sub hl [0, 1, 3, 4, 5] rfl)
              · refine lv_iconst (v := nI 1) hx hb dX5_fits_79 (by decide) ?_
                refine lv_goto (tgt := 84) hx hb dX5_fits_80 (by decide) ?_
                refine lv_istore_n (lv' := [(3, .int (nI 1)), (5, .int (nI (nms ci k))), (4, .int (nI k)), (0, .ref g0), (1, .int (nI ci)), (2, .int (nI en))]) hx hb dX5_fits_84 rfl hl (by decide) rfl (fun ls hl => ?_)
                refine lv_iinc (v := nI (k + 1)) (lv' := [(4, .int (nI (k + 1))), (3, .int (nI 1)), (5, .int (nI (nms ci k))), (0, .ref g0), (1, .int (nI ci)), (2, .int (nI en))]) hx hb dX5_fits_85 hl (k := 2) rfl (nr_inc _ _ (by omega)) (by decide) rfl (fun ls hl => ?_)
                refine lv_goto (tgt := 25) hx hb dX5_fits_88 (by decide) ?_
                exact ih_7 (k + 1) (by omega) (by omega) ls (by rw [← show nI 1 = bI (ftP D U (nms ci) en (k + 1)) from bI_one (by rw [ftP_s, c_47]; simp [ltB]; omega)]; exact lv_sub hl [0, 1, 3, 4, 5] rfl)
    exact loop_6 (6 + 1) 0 (by omega) (by omega) ls (by rw [← show nI 1 = bI (ftP D U (nms ci) en 0) from bI_one (by simp [ftP, ftA]; omega)]; exact lv_sub hl [0, 1, 2, 3, 4] rfl)

set_option maxHeartbeats 4000000 in
set_option maxRecDepth 100000 in
theorem kX5_first_any (l : Launch) (dd : va_G) (cI cZ cR cJ : ClassId) (g0 : Nat) (th : Nat) (U : Nat) (le : Bool) (wl : Nat) (wd : Int32) (qD : Nat) (qT : Nat) (qN : Nat) (qO : Nat) (qS : Nat) (qC : Nat) (qP : Nat) (qG : Nat) (qB : Nat) (qF : Nat) (qX : Nat) (D : Nat → Nat) (nms : Nat → Nat → Nat) (ci : Nat) (fr : Nat) (hci : ci < 4) (hfr : fr < 32) (hDb : ∀ j, D j < 256) (hnb : ∀ i j, nms i j < 128) (hUb : U < 16) : Met l yX5_first wsX5_first ({ frames := 1, cells := 0, slots := 0, locals := 25 }) (va_Pc [.ref g0, .int (nI ci), .int (nI fr), .int (-1 : Int32)] (qc dd cI cZ cR cJ [(g0, .inr (5, [.int (nI th), .ref qD, .ref qT, .int (nI U), .int (pI le wl), .int wd, .ref qN, .ref qO, .ref qS, .ref qC, .ref qP, .ref qG, .ref qB, .ref qF, .ref qX])), (qD, .inl (cI, 4096, .inl (aN D))), (qN, .inl (cI, 24, .inl (aN (fN nms))))])) (QcRead (fnd (ftB D U (nms ci)) (32 - fr) fr)) 0 0 (fun _ => False) := by
  refine mk_met (cc := cX5_first) (maxL := 5) (ret := (some .int)) (by decide) rfl (Nat.le_of_ble_eq_true rfl) ?_
  intro p e s m below meth c hx hb hr hts hown hlocks hml hin hv ls hl
  obtain ⟨hP, hK⟩ := hv
  have hown : s.vm.findClass RX5 = some m.cls := hown
  have hl : lv_has ls 5 [(0, .ref g0), (1, .int (nI ci)), (2, .int (nI fr)), (3, .int (-1 : Int32))] := hl
  refine lv_iload_n hx hb dX5_first_0 rfl (lv_at hl 2 rfl) ?_
  refine lv_istore (lv' := [(4, .int (nI fr)), (0, .ref g0), (1, .int (nI ci)), (2, .int (nI fr)), (3, .int (-1 : Int32))]) hx hb dX5_first_1 hl (by decide) rfl (fun ls hl => ?_)
  have loop_1 : ∀ (n k : Nat), k ≤ 32 → 32 + 1 ≤ k + n → (fnd (ftB D U (nms ci)) (32 - fr) fr = fnd (ftB D U (nms ci)) (32 - k) k) → ∀ ls : Array Slot, lv_has ls 5 [(4, .int (nI k)), (0, .ref g0), (1, .int (nI ci)), (2, .int (nI fr)), (3, .int (-1 : Int32))] → W p l e (({ frames := 1, cells := 0, slots := 0, locals := 25 } : Room)) s m ([.ref g0, .int (nI ci), .int (nI fr), .int (-1 : Int32)] : List Value).toArray below meth c s.heap [] 0 0 (MQ below (QcRead (fnd (ftB D U (nms ci)) (32 - fr) fr)) ([.ref g0, .int (nI ci), .int (nI fr), .int (-1 : Int32)] : List Value).toArray s 0 0 (fun _ => False)) (F0 m 3 ls []) := by
    intro n
    induction n with
    | zero => intro k h1 h2; exact absurd h2 (by omega)
    | succ n ih =>
      intro k hk_k hn_k hf ls hl
      have ih_2 := ih
      refine lv_iload hx hb dX5_first_3 (lv_at hl 0 rfl) ?_
      refine lv_bipush (v := nI 32) hx hb dX5_first_5 (by decide) ?_
      refine nr_ge (tgt := 50) hx hb (by omega) (by omega) dX5_first_7 (by decide) (fun c_7 => ?_) (fun c_7 => ?_)
      · have ek_k : k = 32 := by omega
        subst ek_k
        refine lv_iconst (v := -1) hx hb dX5_first_50 (by decide) ?_
        have hR : (-1 : Int32) = fnd (ftB D U (nms ci)) (32 - fr) fr := by rw [hf]; exact (fnd_end 32).symm
        exact W.iret (v := (-1 : Int32)) hx hb hr (fun t ht hW => ⟨congrArg (fun z => Outcome.returned (some (Value.int z))) hR, ht⟩) (fun q h => nomatch h) dX5_first_51
      · refine lv_aload_n hx hb dX5_first_10 rfl (lv_at hl 1 rfl) ?_
        refine lv_iload_n hx hb dX5_first_11 rfl (lv_at hl 2 rfl) ?_
        refine lv_iload hx hb dX5_first_12 (lv_at hl 0 rfl) ?_
        refine cr_i (va_runV (As := [.int (nI ci), .int (nI k)]) (rest := []) ⟨hx, hb, hml, hown, hts⟩ (kX5_fits l dd cI cZ cR cJ g0 th U le wl wd qD qT qN qO qS qC qP qG qB qF qX D nms ci k (by omega) (by omega) hDb hnb (by omega)) (cwV 2 hts gX5_first_X5_fits rfl rfl rfl (by decide +kernel) ⟨Nat.le_of_ble_eq_true rfl, Nat.le_of_ble_eq_true rfl⟩) (pv_c hK hP 0 rfl (ci := 5) rfl [0, 1, 2] rfl) rfl rfl hl.1 rfl (lv_room (Nat.le_of_ble_eq_true rfl)) dX5_first_14 ⟨Nat.zero_le _, Nat.zero_le _⟩) ?_
        refine br_if_eq (tgt := 44) hx hb dX5_first_17 (by decide) (fun c_17 => ?_) (fun c_17 => ?_)
        · refine lv_iinc (v := nI (k + 1)) (lv' := [(4, .int (nI (k + 1))), (0, .ref g0), (1, .int (nI ci)), (2, .int (nI fr)), (3, .int (-1 : Int32))]) hx hb dX5_first_44 hl (k := 0) rfl (nr_inc _ _ (by omega)) (by decide) rfl (fun ls hl => ?_)
          refine lv_goto (tgt := 3) hx hb dX5_first_47 (by decide) ?_
          exact ih_2 (k + 1) (by omega) (by omega) (by rw [hf, fnd_at (by omega)]; simp [c_7, c_17]) ls (lv_sub hl [0, 1, 2, 3, 4] rfl)
        · refine lv_iload_n hx hb dX5_first_20 rfl (lv_at hl 4 rfl) ?_
          refine lv_if_lt (tgt := 41) hx hb dX5_first_21 (by decide) (fun c_21 => ?_) (fun c_21 => absurd c_21 (by decide))
          refine lv_iload hx hb dX5_first_41 (lv_at hl 0 rfl) ?_
          have hR : nI k = fnd (ftB D U (nms ci)) (32 - fr) fr := by rw [hf, fnd_at (by omega)]; simp [c_7, c_17, c_21]
          exact W.iret (v := nI k) hx hb hr (fun t ht hW => ⟨congrArg (fun z => Outcome.returned (some (Value.int z))) hR, ht⟩) (fun q h => nomatch h) dX5_first_43
  exact loop_1 (32 + 1) fr (by omega) (by omega) rfl ls (lv_sub hl [0, 1, 2, 3, 4] rfl)

set_option maxHeartbeats 4000000 in
set_option maxRecDepth 100000 in
theorem kX5_first_of (l : Launch) (dd : va_G) (cI cZ cR cJ : ClassId) (g0 : Nat) (th : Nat) (U : Nat) (le : Bool) (wl : Nat) (wd : Int32) (qD : Nat) (qT : Nat) (qN : Nat) (qO : Nat) (qS : Nat) (qC : Nat) (qP : Nat) (qG : Nat) (qB : Nat) (qF : Nat) (qX : Nat) (D : Nat → Nat) (nms : Nat → Nat → Nat) (ci : Nat) (sn : Nat) (hci : ci < 4) (hsn : sn < 1000) (hDb : ∀ j, D j < 256) (hnb : ∀ i j, nms i j < 128) (hUb : U < 16) : Met l yX5_first wsX5_first ({ frames := 1, cells := 0, slots := 0, locals := 25 }) (va_Pc [.ref g0, .int (nI ci), .int (nI 0), .int (nI sn)] (qc dd cI cZ cR cJ [(g0, .inr (5, [.int (nI th), .ref qD, .ref qT, .int (nI U), .int (pI le wl), .int wd, .ref qN, .ref qO, .ref qS, .ref qC, .ref qP, .ref qG, .ref qB, .ref qF, .ref qX])), (qD, .inl (cI, 4096, .inl (aN D))), (qN, .inl (cI, 24, .inl (aN (fN nms))))])) (QcRead (fnd (fsB D U (nms ci) sn) 32 0)) 0 0 (fun _ => False) := by
  refine mk_met (cc := cX5_first) (maxL := 5) (ret := (some .int)) (by decide) rfl (Nat.le_of_ble_eq_true rfl) ?_
  intro p e s m below meth c hx hb hr hts hown hlocks hml hin hv ls hl
  obtain ⟨hP, hK⟩ := hv
  have hown : s.vm.findClass RX5 = some m.cls := hown
  have hl : lv_has ls 5 [(0, .ref g0), (1, .int (nI ci)), (2, .int (nI 0)), (3, .int (nI sn))] := hl
  have hf_7 := hts (.fieldLink RX5 7 "RecordSystemModel" "disk" "[I") (by decide +kernel)
  have hin_X5 : ∀ w ∈ wsX50, w ∈ wsX5_first := by decide +kernel
  refine lv_iload_n hx hb dX5_first_0 rfl (lv_at hl 2 rfl) ?_
  refine lv_istore (lv' := [(4, .int (nI 0)), (0, .ref g0), (1, .int (nI ci)), (2, .int (nI 0)), (3, .int (nI sn))]) hx hb dX5_first_1 hl (by decide) rfl (fun ls hl => ?_)
  have loop_1 : ∀ (n k : Nat), k ≤ 32 → 32 + 1 ≤ k + n → (fnd (fsB D U (nms ci) sn) 32 0 = fnd (fsB D U (nms ci) sn) (32 - k) k) → ∀ ls : Array Slot, lv_has ls 5 [(4, .int (nI k)), (0, .ref g0), (1, .int (nI ci)), (2, .int (nI 0)), (3, .int (nI sn))] → W p l e (({ frames := 1, cells := 0, slots := 0, locals := 25 } : Room)) s m ([.ref g0, .int (nI ci), .int (nI 0), .int (nI sn)] : List Value).toArray below meth c s.heap [] 0 0 (MQ below (QcRead (fnd (fsB D U (nms ci) sn) 32 0)) ([.ref g0, .int (nI ci), .int (nI 0), .int (nI sn)] : List Value).toArray s 0 0 (fun _ => False)) (F0 m 3 ls []) := by
    intro n
    induction n with
    | zero => intro k h1 h2; exact absurd h2 (by omega)
    | succ n ih =>
      intro k hk_k hn_k hf ls hl
      have ih_2 := ih
      refine lv_iload hx hb dX5_first_3 (lv_at hl 0 rfl) ?_
      refine lv_bipush (v := nI 32) hx hb dX5_first_5 (by decide) ?_
      refine nr_ge (tgt := 50) hx hb (by omega) (by omega) dX5_first_7 (by decide) (fun c_7 => ?_) (fun c_7 => ?_)
      · have ek_k : k = 32 := by omega
        subst ek_k
        refine lv_iconst (v := -1) hx hb dX5_first_50 (by decide) ?_
        have hR : (-1 : Int32) = fnd (fsB D U (nms ci) sn) 32 0 := by rw [hf]; exact (fnd_end 32).symm
        exact W.iret (v := (-1 : Int32)) hx hb hr (fun t ht hW => ⟨congrArg (fun z => Outcome.returned (some (Value.int z))) hR, ht⟩) (fun q h => nomatch h) dX5_first_51
      · refine lv_aload_n hx hb dX5_first_10 rfl (lv_at hl 1 rfl) ?_
        refine lv_iload_n hx hb dX5_first_11 rfl (lv_at hl 2 rfl) ?_
        refine lv_iload hx hb dX5_first_12 (lv_at hl 0 rfl) ?_
        refine cr_i (va_runV (As := [.int (nI ci), .int (nI k)]) (rest := []) ⟨hx, hb, hml, hown, hts⟩ (kX5_fits l dd cI cZ cR cJ g0 th U le wl wd qD qT qN qO qS qC qP qG qB qF qX D nms ci k (by omega) (by omega) hDb hnb (by omega)) (cwV 2 hts gX5_first_X5_fits rfl rfl rfl (by decide +kernel) ⟨Nat.le_of_ble_eq_true rfl, Nat.le_of_ble_eq_true rfl⟩) (pv_c hK hP 0 rfl (ci := 5) rfl [0, 1, 2] rfl) rfl rfl hl.1 rfl (lv_room (Nat.le_of_ble_eq_true rfl)) dX5_first_14 ⟨Nat.zero_le _, Nat.zero_le _⟩) ?_
        refine br_if_eq (tgt := 44) hx hb dX5_first_17 (by decide) (fun c_17 => ?_) (fun c_17 => ?_)
        · refine lv_iinc (v := nI (k + 1)) (lv' := [(4, .int (nI (k + 1))), (0, .ref g0), (1, .int (nI ci)), (2, .int (nI 0)), (3, .int (nI sn))]) hx hb dX5_first_44 hl (k := 0) rfl (nr_inc _ _ (by omega)) (by decide) rfl (fun ls hl => ?_)
          refine lv_goto (tgt := 3) hx hb dX5_first_47 (by decide) ?_
          exact ih_2 (k + 1) (by omega) (by omega) (by rw [hf, fnd_at (by omega)]; simp [fsB, c_7, c_17]) ls (lv_sub hl [0, 1, 2, 3, 4] rfl)
        · refine lv_iload_n hx hb dX5_first_20 rfl (lv_at hl 4 rfl) ?_
          refine nr_if_lt (tgt := 41) hx hb (by omega) dX5_first_21 (by decide) ?_
          refine lv_aload_n hx hb dX5_first_24 rfl (lv_at hl 1 rfl) ?_
          refine va_get (D := dd) (ci := 5) (v := .ref qD) (C := RX5) (T := TX5) (N := 15) hx hb hts hin_X5 hown hK.1 hP 0 rfl rfl 1 (by decide) hf_7 (fun _ h9 => h9) rfl dX5_first_25 ?_
          refine lv_bipush (v := nI 16) hx hb dX5_first_28 (by decide) ?_
          refine lv_iload hx hb dX5_first_30 (lv_at hl 0 rfl) ?_
          refine nr_imul (16 * k) (by omega) hx hb dX5_first_32 ?_
          refine lv_bipush (v := nI 7) hx hb dX5_first_33 (by decide) ?_
          refine nr_iadd (16 * k + 7) (by omega) hx hb dX5_first_35 ?_
          refine nr_iald (f := D) hx hb hK hP 1 rfl (by omega) (by decide) dX5_first_36 ?_
          have hv_3 := hDb (16 * k + 7)
          refine lv_iload_n hx hb dX5_first_37 rfl (lv_at hl 4 rfl) ?_
          refine nr_ne (tgt := 44) hx hb (by omega) (by omega) dX5_first_38 (by decide) (fun c_38 => ?_) (fun c_38 => ?_)
          · refine lv_iinc (v := nI (k + 1)) (lv' := [(4, .int (nI (k + 1))), (0, .ref g0), (1, .int (nI ci)), (2, .int (nI 0)), (3, .int (nI sn))]) hx hb dX5_first_44 hl (k := 0) rfl (nr_inc _ _ (by omega)) (by decide) rfl (fun ls hl => ?_)
            refine lv_goto (tgt := 3) hx hb dX5_first_47 (by decide) ?_
            exact ih_2 (k + 1) (by omega) (by omega) (by rw [hf, fnd_at (by omega)]; simp [fsB, c_7, c_17, c_38]) ls (lv_sub hl [0, 1, 2, 3, 4] rfl)
          · refine lv_iload hx hb dX5_first_41 (lv_at hl 0 rfl) ?_
            have hR : nI k = fnd (fsB D U (nms ci) sn) 32 0 := by rw [hf, fnd_at (by omega)]; simp [fsB, c_7, c_17, c_38]
            exact W.iret (v := nI k) hx hb hr (fun t ht hW => ⟨congrArg (fun z => Outcome.returned (some (Value.int z))) hR, ht⟩) (fun q h => nomatch h) dX5_first_43
  exact loop_1 (32 + 1) 0 (by omega) (by omega) rfl ls (lv_sub hl [0, 1, 2, 3, 4] rfl)

set_option maxHeartbeats 4000000 in
set_option maxRecDepth 100000 in
theorem kX5_firstFree (l : Launch) (dd : va_G) (cI cZ cR cJ : ClassId) (g0 : Nat) (th : Nat) (U : Nat) (le : Bool) (wl : Nat) (wd : Int32) (qD : Nat) (qT : Nat) (qN : Nat) (qO : Nat) (qS : Nat) (qC : Nat) (qP : Nat) (qG : Nat) (qB : Nat) (qF : Nat) (qX : Nat) (D : Nat → Nat) (hDb : ∀ j, D j < 256) : Met l yX5_firstFree wsX5_firstFree ({ frames := 1, cells := 0, slots := 0, locals := 21 }) (va_Pc [.ref g0] (qc dd cI cZ cR cJ [(g0, .inr (5, [.int (nI th), .ref qD, .ref qT, .int (nI U), .int (pI le wl), .int wd, .ref qN, .ref qO, .ref qS, .ref qC, .ref qP, .ref qG, .ref qB, .ref qF, .ref qX])), (qD, .inl (cI, 4096, .inl (aN D)))])) (QcRead (fnd (frB D) 32 0)) 0 0 (fun _ => False) := by
  refine mk_met (cc := cX5_firstFree) (maxL := 2) (ret := (some .int)) (by decide) rfl (Nat.le_of_ble_eq_true rfl) ?_
  intro p e s m below meth c hx hb hr hts hown hlocks hml hin hv ls hl
  obtain ⟨hP, hK⟩ := hv
  have hown : s.vm.findClass RX5 = some m.cls := hown
  have hl : lv_has ls 2 [(0, .ref g0)] := hl
  refine lv_iconst (v := nI 0) hx hb dX5_firstFree_0 (by decide) ?_
  refine lv_istore_n (lv' := [(1, .int (nI 0)), (0, .ref g0)]) hx hb dX5_firstFree_1 rfl hl (by decide) rfl (fun ls hl => ?_)
  have loop_1 : ∀ (n k : Nat), k ≤ 32 → 32 + 1 ≤ k + n → (fnd (frB D) 32 0 = fnd (frB D) (32 - k) k) → ∀ ls : Array Slot, lv_has ls 2 [(1, .int (nI k)), (0, .ref g0)] → W p l e (({ frames := 1, cells := 0, slots := 0, locals := 21 } : Room)) s m ([.ref g0] : List Value).toArray below meth c s.heap [] 0 0 (MQ below (QcRead (fnd (frB D) 32 0)) ([.ref g0] : List Value).toArray s 0 0 (fun _ => False)) (F0 m 2 ls []) := by
    intro n
    induction n with
    | zero => intro k h1 h2; exact absurd h2 (by omega)
    | succ n ih =>
      intro k hk_k hn_k hf ls hl
      have ih_2 := ih
      refine lv_iload_n hx hb dX5_firstFree_2 rfl (lv_at hl 0 rfl) ?_
      refine lv_bipush (v := nI 32) hx hb dX5_firstFree_3 (by decide) ?_
      refine nr_ge (tgt := 24) hx hb (by omega) (by omega) dX5_firstFree_5 (by decide) (fun c_5 => ?_) (fun c_5 => ?_)
      · have ek_k : k = 32 := by omega
        subst ek_k
        refine lv_iconst (v := -1) hx hb dX5_firstFree_24 (by decide) ?_
        have hR : (-1 : Int32) = fnd (frB D) 32 0 := by rw [hf]; exact (fnd_end 32).symm
        exact W.iret (v := (-1 : Int32)) hx hb hr (fun t ht hW => ⟨congrArg (fun z => Outcome.returned (some (Value.int z))) hR, ht⟩) (fun q h => nomatch h) dX5_firstFree_25
      · refine lv_aload_n hx hb dX5_firstFree_8 rfl (lv_at hl 1 rfl) ?_
        refine lv_iload_n hx hb dX5_firstFree_9 rfl (lv_at hl 0 rfl) ?_
        refine cr_i (va_runV (As := [.int (nI k)]) (rest := []) ⟨hx, hb, hml, hown, hts⟩ (kX5_isFree l dd cI cZ cR cJ g0 th U le wl wd qD qT qN qO qS qC qP qG qB qF qX D k (by omega) hDb) (cwV 1 hts gX5_firstFree_X5_isFree rfl rfl rfl (by decide +kernel) ⟨Nat.le_of_ble_eq_true rfl, Nat.le_of_ble_eq_true rfl⟩) (pv_c hK hP 0 rfl (ci := 5) rfl [0, 1] rfl) rfl rfl hl.1 rfl (lv_room (Nat.le_of_ble_eq_true rfl)) dX5_firstFree_10 ⟨Nat.zero_le _, Nat.zero_le _⟩) ?_
        refine br_if_eq (tgt := 18) hx hb dX5_firstFree_13 (by decide) (fun c_13 => ?_) (fun c_13 => ?_)
        · refine lv_iinc (v := nI (k + 1)) (lv' := [(1, .int (nI (k + 1))), (0, .ref g0)]) hx hb dX5_firstFree_18 hl (k := 0) rfl (nr_inc _ _ (by omega)) (by decide) rfl (fun ls hl => ?_)
          refine lv_goto (tgt := 2) hx hb dX5_firstFree_21 (by decide) ?_
          exact ih_2 (k + 1) (by omega) (by omega) (by rw [hf, fnd_at (by omega)]; simp [c_5, c_13]) ls (lv_sub hl [0, 1] rfl)
        · refine lv_iload_n hx hb dX5_firstFree_16 rfl (lv_at hl 0 rfl) ?_
          have hR : nI k = fnd (frB D) 32 0 := by rw [hf, fnd_at (by omega)]; simp [c_5, c_13]
          exact W.iret (v := nI k) hx hb hr (fun t ht hW => ⟨congrArg (fun z => Outcome.returned (some (Value.int z))) hR, ht⟩) (fun q h => nomatch h) dX5_firstFree_17
  exact loop_1 (32 + 1) 0 (by omega) (by omega) rfl ls (lv_sub hl [0, 1] rfl)

set_option maxHeartbeats 4000000 in
set_option maxRecDepth 100000 in
theorem kX5_canWrite (l : Launch) (dd : va_G) (cI cZ cR cJ : ClassId) (g0 : Nat) (th : Nat) (U : Nat) (le : Bool) (wl : Nat) (wd : Int32) (qD : Nat) (qT : Nat) (qN : Nat) (qO : Nat) (qS : Nat) (qC : Nat) (qP : Nat) (qG : Nat) (qB : Nat) (qF : Nat) (qX : Nat) (sz : Nat) (hwl : wl ≤ 1000) : Met l yX5_canWrite wsX5_canWrite ({ frames := 0, cells := 0, slots := 0, locals := 0 }) (va_Pc [.ref g0] (qm dd cI cZ cR cJ sz [(g0, .inr (5, [.int (nI th), .ref qD, .ref qT, .int (nI U), .int (pI le wl), .int wd, .ref qN, .ref qO, .ref qS, .ref qC, .ref qP, .ref qG, .ref qB, .ref qF, .ref qX]))])) (va_Qi (fun (r : Int32) (u : Bool) => r = bI u ∧ (u = okW le wl)) (fun u t => qa dd (va_A [(g0, .inr (5, [.int (nI th), .ref qD, .ref qT, .int (nI U), .int (pI le wl), .int wd, .ref qN, .ref qO, .ref qS, .ref qC, .ref qP, .ref qG, .ref qB, .ref qF, .ref qX]))] sz) [(g0, .inr (5, [.int (nI th), .ref qD, .ref qT, .int (nI U), .int (pI le (wlW le wl)), .int (wdW le wl wd), .ref qN, .ref qO, .ref qS, .ref qC, .ref qP, .ref qG, .ref qB, .ref qF, .ref qX]))] t) (va_A [(g0, .inr (5, [.int (nI th), .ref qD, .ref qT, .int (nI U), .int (pI le wl), .int wd, .ref qN, .ref qO, .ref qS, .ref qC, .ref qP, .ref qG, .ref qB, .ref qF, .ref qX]))] sz)) 0 0 (va_A [(g0, .inr (5, [.int (nI th), .ref qD, .ref qT, .int (nI U), .int (pI le wl), .int wd, .ref qN, .ref qO, .ref qS, .ref qC, .ref qP, .ref qG, .ref qB, .ref qF, .ref qX]))] sz) := by
  refine mk_mut (cc := cX5_canWrite) (maxL := 1) (ret := (some .boolean)) (Qf := fun A => va_Qi (fun (r : Int32) (u : Bool) => r = bI u ∧ (u = okW le wl)) (fun u t => qa dd A [(g0, .inr (5, [.int (nI th), .ref qD, .ref qT, .int (nI U), .int (pI le (wlW le wl)), .int (wdW le wl wd), .ref qN, .ref qO, .ref qS, .ref qC, .ref qP, .ref qG, .ref qB, .ref qF, .ref qX]))] t) A) (by decide) rfl (Nat.le_of_ble_eq_true rfl) ?_
  intro p e s m below meth c A hx hb hr hts hown hlocks hml hin hP hD hA hS hK ls hl
  have hown : s.vm.findClass RX5 = some m.cls := hown
  have hl : lv_has ls 1 [(0, .ref g0)] := hl
  have hf_17 := hts (.fieldLink RX5 17 "RecordSystemModel" "power" "I") (by decide +kernel)
  have hin_X5 : ∀ w ∈ wsX50, w ∈ wsX5_canWrite := by decide +kernel
  have hf_62 := hts (.fieldLink RX5 62 "RecordSystemModel" "writes" "I") (by decide +kernel)
  refine lv_aload_n hx hb dX5_canWrite_0 rfl (lv_at hl 0 rfl) ?_
  refine va_get (D := dd) (ci := 5) (v := .int (pI le wl)) (C := RX5) (T := TX5) (N := 15) hx hb hts hin_X5 hown hK.1 hP 0 rfl rfl 4 (by decide) hf_17 (fun _ h9 => h9) rfl dX5_canWrite_1 ?_
  refine lv_if_ne (tgt := 9) hx hb dX5_canWrite_4 (by decide) (fun c_4 => ?_) (fun c_4 => ?_)
  · refine lv_aload_n hx hb dX5_canWrite_9 rfl (lv_at hl 0 rfl) ?_
    refine lv_aload_n hx hb dX5_canWrite_10 rfl (lv_at hl 0 rfl) ?_
    refine va_get (D := dd) (ci := 5) (v := .int (pI le wl)) (C := RX5) (T := TX5) (N := 15) hx hb hts hin_X5 hown hK.1 hP 0 rfl rfl 4 (by decide) hf_17 (fun _ h9 => h9) rfl dX5_canWrite_11 ?_
    refine lv_if_le (tgt := 26) hx hb dX5_canWrite_14 (by decide) (fun c_14 => ?_) (fun c_14 => ?_)
    · refine lv_aload_n hx hb dX5_canWrite_26 rfl (lv_at hl 0 rfl) ?_
      refine va_get (D := dd) (ci := 5) (v := .int (pI le wl)) (C := RX5) (T := TX5) (N := 15) hx hb hts hin_X5 hown hK.1 hP 0 rfl rfl 4 (by decide) hf_17 (fun _ h9 => h9) rfl dX5_canWrite_27 ?_
      refine va_put (D := dd) (ci := 5) (v := .int (pI le wl)) (ty := .int) (C := RX5) (T := TX5) (N := 15) hx hb hts hin_X5 tyX5 tyX5_ok nmX5 hown hK.1 hP hD hS 0 rfl rfl 4 (by decide) hf_17 (fun _ h9 => h9) rfl (by decide +kernel) rfl rfl (Nat.le_of_ble_eq_true rfl) dX5_canWrite_30 (fun H locs hP hD hS => ?_)
      have hP : va_P dd vwCl [(g0, .inr (5, [.int (nI th), .ref qD, .ref qT, .int (nI U), .int (pI le wl), .int wd, .ref qN, .ref qO, .ref qS, .ref qC, .ref qP, .ref qG, .ref qB, .ref qF, .ref qX]))] H := hP
      have hD : va_D A [(g0, .inr (5, [.int (nI th), .ref qD, .ref qT, .int (nI U), .int (pI le wl), .int wd, .ref qN, .ref qO, .ref qS, .ref qC, .ref qP, .ref qG, .ref qB, .ref qF, .ref qX]))] := hD
      refine lv_aload_n hx hb dX5_canWrite_33 rfl (lv_at hl 0 rfl) ?_
      refine lv_dup hx hb dX5_canWrite_34 rfl ?_
      refine va_get (D := dd) (ci := 5) (v := .int wd) (C := RX5) (T := TX5) (N := 15) hx hb hts hin_X5 hown hK.1 hP 0 rfl rfl 5 (by decide) hf_62 (fun _ h9 => h9) rfl dX5_canWrite_35 ?_
      refine lv_iconst (v := nI 1) hx hb dX5_canWrite_38 (by decide) ?_
      refine lv_iadd hx hb dX5_canWrite_39 ?_
      refine va_put (D := dd) (ci := 5) (v := .int (wd + nI 1)) (ty := .int) (C := RX5) (T := TX5) (N := 15) hx hb hts hin_X5 tyX5 tyX5_ok nmX5 hown hK.1 hP hD hS 0 rfl rfl 5 (by decide) hf_62 (fun _ h9 => h9) rfl (by decide +kernel) rfl rfl (Nat.le_of_ble_eq_true rfl) dX5_canWrite_40 (fun H locs hP hD hS => ?_)
      have hP : va_P dd vwCl [(g0, .inr (5, [.int (nI th), .ref qD, .ref qT, .int (nI U), .int (pI le wl), .int (wd + nI 1), .ref qN, .ref qO, .ref qS, .ref qC, .ref qP, .ref qG, .ref qB, .ref qF, .ref qX]))] H := hP
      have hD : va_D A [(g0, .inr (5, [.int (nI th), .ref qD, .ref qT, .int (nI U), .int (pI le wl), .int (wd + nI 1), .ref qN, .ref qO, .ref qS, .ref qC, .ref qP, .ref qG, .ref qB, .ref qF, .ref qX]))] := hD
      refine lv_iconst (v := nI 1) hx hb dX5_canWrite_43 (by decide) ?_
      obtain ⟨z2, z3⟩ := pw_ok (wd := wd) c_4
      rw [z2] at hP hD
      rw [pw_le hwl c_4 c_14] at hP hD
      have hP9 := hP.sub (ws' := [(g0, .inr (5, [.int (nI th), .ref qD, .ref qT, .int (nI U), .int (pI le (wlW le wl)), .int (wdW le wl wd), .ref qN, .ref qO, .ref qS, .ref qC, .ref qP, .ref qG, .ref qB, .ref qF, .ref qX]))]) [0] rfl
      have hD9 := hD.sub (ws' := [(g0, .inr (5, [.int (nI th), .ref qD, .ref qT, .int (nI U), .int (pI le (wlW le wl)), .int (wdW le wl wd), .ref qN, .ref qO, .ref qS, .ref qC, .ref qP, .ref qG, .ref qB, .ref qF, .ref qX]))]) [0] (by decide) rfl
      exact W.zret (v := nI 1) hx hb hr (by decide) (fun t ht hW => ⟨⟨nI 1, true, rfl, ⟨rfl, z3.symm⟩, by rw [ht]; exact hP9, hD9⟩, hS.F ht⟩) hS.2.2 dX5_canWrite_44
    · refine lv_aload_n hx hb dX5_canWrite_17 rfl (lv_at hl 0 rfl) ?_
      refine va_get (D := dd) (ci := 5) (v := .int (pI le wl)) (C := RX5) (T := TX5) (N := 15) hx hb hts hin_X5 hown hK.1 hP 0 rfl rfl 4 (by decide) hf_17 (fun _ h9 => h9) rfl dX5_canWrite_18 ?_
      refine lv_iconst (v := nI 1) hx hb dX5_canWrite_21 (by decide) ?_
      refine lv_isub hx hb dX5_canWrite_22 ?_
      refine lv_goto (tgt := 30) hx hb dX5_canWrite_23 (by decide) ?_
      refine va_put (D := dd) (ci := 5) (v := .int ((pI le wl) - nI 1)) (ty := .int) (C := RX5) (T := TX5) (N := 15) hx hb hts hin_X5 tyX5 tyX5_ok nmX5 hown hK.1 hP hD hS 0 rfl rfl 4 (by decide) hf_17 (fun _ h9 => h9) rfl (by decide +kernel) rfl rfl (Nat.le_of_ble_eq_true rfl) dX5_canWrite_30 (fun H locs hP hD hS => ?_)
      have hP : va_P dd vwCl [(g0, .inr (5, [.int (nI th), .ref qD, .ref qT, .int (nI U), .int ((pI le wl) - nI 1), .int wd, .ref qN, .ref qO, .ref qS, .ref qC, .ref qP, .ref qG, .ref qB, .ref qF, .ref qX]))] H := hP
      have hD : va_D A [(g0, .inr (5, [.int (nI th), .ref qD, .ref qT, .int (nI U), .int ((pI le wl) - nI 1), .int wd, .ref qN, .ref qO, .ref qS, .ref qC, .ref qP, .ref qG, .ref qB, .ref qF, .ref qX]))] := hD
      refine lv_aload_n hx hb dX5_canWrite_33 rfl (lv_at hl 0 rfl) ?_
      refine lv_dup hx hb dX5_canWrite_34 rfl ?_
      refine va_get (D := dd) (ci := 5) (v := .int wd) (C := RX5) (T := TX5) (N := 15) hx hb hts hin_X5 hown hK.1 hP 0 rfl rfl 5 (by decide) hf_62 (fun _ h9 => h9) rfl dX5_canWrite_35 ?_
      refine lv_iconst (v := nI 1) hx hb dX5_canWrite_38 (by decide) ?_
      refine lv_iadd hx hb dX5_canWrite_39 ?_
      refine va_put (D := dd) (ci := 5) (v := .int (wd + nI 1)) (ty := .int) (C := RX5) (T := TX5) (N := 15) hx hb hts hin_X5 tyX5 tyX5_ok nmX5 hown hK.1 hP hD hS 0 rfl rfl 5 (by decide) hf_62 (fun _ h9 => h9) rfl (by decide +kernel) rfl rfl (Nat.le_of_ble_eq_true rfl) dX5_canWrite_40 (fun H locs hP hD hS => ?_)
      have hP : va_P dd vwCl [(g0, .inr (5, [.int (nI th), .ref qD, .ref qT, .int (nI U), .int ((pI le wl) - nI 1), .int (wd + nI 1), .ref qN, .ref qO, .ref qS, .ref qC, .ref qP, .ref qG, .ref qB, .ref qF, .ref qX]))] H := hP
      have hD : va_D A [(g0, .inr (5, [.int (nI th), .ref qD, .ref qT, .int (nI U), .int ((pI le wl) - nI 1), .int (wd + nI 1), .ref qN, .ref qO, .ref qS, .ref qC, .ref qP, .ref qG, .ref qB, .ref qF, .ref qX]))] := hD
      refine lv_iconst (v := nI 1) hx hb dX5_canWrite_43 (by decide) ?_
      obtain ⟨z2, z3⟩ := pw_ok (wd := wd) c_4
      rw [z2] at hP hD
      rw [pw_gt hwl c_14] at hP hD
      have hP9 := hP.sub (ws' := [(g0, .inr (5, [.int (nI th), .ref qD, .ref qT, .int (nI U), .int (pI le (wlW le wl)), .int (wdW le wl wd), .ref qN, .ref qO, .ref qS, .ref qC, .ref qP, .ref qG, .ref qB, .ref qF, .ref qX]))]) [0] rfl
      have hD9 := hD.sub (ws' := [(g0, .inr (5, [.int (nI th), .ref qD, .ref qT, .int (nI U), .int (pI le (wlW le wl)), .int (wdW le wl wd), .ref qN, .ref qO, .ref qS, .ref qC, .ref qP, .ref qG, .ref qB, .ref qF, .ref qX]))]) [0] (by decide) rfl
      exact W.zret (v := nI 1) hx hb hr (by decide) (fun t ht hW => ⟨⟨nI 1, true, rfl, ⟨rfl, z3.symm⟩, by rw [ht]; exact hP9, hD9⟩, hS.F ht⟩) hS.2.2 dX5_canWrite_44
  · refine lv_iconst (v := nI 0) hx hb dX5_canWrite_7 (by decide) ?_
    obtain ⟨z1, z2, z3⟩ := pw_no (wd := wd) hwl c_4
    rw [z1, z2] at hP hD
    have hP9 := hP.sub (ws' := [(g0, .inr (5, [.int (nI th), .ref qD, .ref qT, .int (nI U), .int (pI le (wlW le wl)), .int (wdW le wl wd), .ref qN, .ref qO, .ref qS, .ref qC, .ref qP, .ref qG, .ref qB, .ref qF, .ref qX]))]) [0] rfl
    have hD9 := hD.sub (ws' := [(g0, .inr (5, [.int (nI th), .ref qD, .ref qT, .int (nI U), .int (pI le (wlW le wl)), .int (wdW le wl wd), .ref qN, .ref qO, .ref qS, .ref qC, .ref qP, .ref qG, .ref qB, .ref qF, .ref qX]))]) [0] (by decide) rfl
    exact W.zret (v := nI 0) hx hb hr (by decide) (fun t ht hW => ⟨⟨nI 0, false, rfl, ⟨rfl, z3.symm⟩, by rw [ht]; exact hP9, hD9⟩, hS.F ht⟩) hS.2.2 dX5_canWrite_8

set_option maxHeartbeats 4000000 in
set_option maxRecDepth 100000 in
theorem kX5_untaken (l : Launch) (dd : va_G) (cI cZ cR cJ : ClassId) (g0 : Nat) (th : Nat) (U : Nat) (le : Bool) (wl : Nat) (wd : Int32) (qD : Nat) (qT : Nat) (qN : Nat) (qO : Nat) (qS : Nat) (qC : Nat) (qP : Nat) (qG : Nat) (qB : Nat) (qF : Nat) (qX : Nat) (T : Nat → Bool) : Met l yX5_untaken wsX5_untaken ({ frames := 0, cells := 0, slots := 0, locals := 0 }) (va_Pc [.ref g0] (qc dd cI cZ cR cJ [(g0, .inr (5, [.int (nI th), .ref qD, .ref qT, .int (nI U), .int (pI le wl), .int wd, .ref qN, .ref qO, .ref qS, .ref qC, .ref qP, .ref qG, .ref qB, .ref qF, .ref qX])), (qT, .inl (cZ, 64, .inl (aB T)))])) (QcRead (nI (cnt (ntB T) 64))) 0 0 (fun _ => False) := by
  refine mk_met (cc := cX5_untaken) (maxL := 3) (ret := (some .int)) (by decide) rfl (Nat.le_of_ble_eq_true rfl) ?_
  intro p e s m below meth c hx hb hr hts hown hlocks hml hin hv ls hl
  obtain ⟨hP, hK⟩ := hv
  have hown : s.vm.findClass RX5 = some m.cls := hown
  have hl : lv_has ls 3 [(0, .ref g0)] := hl
  have hf_13 := hts (.fieldLink RX5 13 "RecordSystemModel" "taken" "[Z") (by decide +kernel)
  have hin_X5 : ∀ w ∈ wsX50, w ∈ wsX5_untaken := by decide +kernel
  refine lv_iconst (v := nI 0) hx hb dX5_untaken_0 (by decide) ?_
  refine lv_istore_n (lv' := [(1, .int (nI 0)), (0, .ref g0)]) hx hb dX5_untaken_1 rfl hl (by decide) rfl (fun ls hl => ?_)
  refine lv_iconst (v := nI 0) hx hb dX5_untaken_2 (by decide) ?_
  refine lv_istore_n (lv' := [(2, .int (nI 0)), (1, .int (nI 0)), (0, .ref g0)]) hx hb dX5_untaken_3 rfl hl (by decide) rfl (fun ls hl => ?_)
  have loop_1 : ∀ (n k : Nat), k ≤ 64 → 64 + 1 ≤ k + n → ∀ ls : Array Slot, lv_has ls 3 [(2, .int (nI k)), (1, .int (nI (cnt (ntB T) k))), (0, .ref g0)] → W p l e (({ frames := 0, cells := 0, slots := 0, locals := 0 } : Room)) s m ([.ref g0] : List Value).toArray below meth c s.heap [] 0 0 (MQ below (QcRead (nI (cnt (ntB T) 64))) ([.ref g0] : List Value).toArray s 0 0 (fun _ => False)) (F0 m 4 ls []) := by
    intro n
    induction n with
    | zero => intro k h1 h2; exact absurd h2 (by omega)
    | succ n ih =>
      intro k hk_k hn_k ls hl
      have ih_2 := ih
      refine lv_iload_n hx hb dX5_untaken_4 rfl (lv_at hl 0 rfl) ?_
      refine lv_bipush (v := nI 64) hx hb dX5_untaken_5 (by decide) ?_
      refine nr_ge (tgt := 33) hx hb (by omega) (by omega) dX5_untaken_7 (by decide) (fun c_7 => ?_) (fun c_7 => ?_)
      · have ek_k : k = 64 := by omega
        subst ek_k
        refine lv_iload_n hx hb dX5_untaken_33 rfl (lv_at hl 1 rfl) ?_
        have hR : nI (cnt (ntB T) 64) = nI (cnt (ntB T) 64) := rfl
        exact W.iret (v := nI (cnt (ntB T) 64)) hx hb hr (fun t ht hW => ⟨congrArg (fun z => Outcome.returned (some (Value.int z))) hR, ht⟩) (fun q h => nomatch h) dX5_untaken_34
      · refine lv_aload_n hx hb dX5_untaken_10 rfl (lv_at hl 2 rfl) ?_
        refine va_get (D := dd) (ci := 5) (v := .ref qT) (C := RX5) (T := TX5) (N := 15) hx hb hts hin_X5 hown hK.1 hP 0 rfl rfl 2 (by decide) hf_13 (fun _ h9 => h9) rfl dX5_untaken_11 ?_
        refine lv_iload_n hx hb dX5_untaken_14 rfl (lv_at hl 0 rfl) ?_
        refine nr_zald (f := T) hx hb hK hP 1 rfl (by omega) (by decide) dX5_untaken_15 ?_
        refine br_if_eq (tgt := 23) hx hb dX5_untaken_16 (by decide) (fun c_16 => ?_) (fun c_16 => ?_)
        · refine lv_iload_n hx hb dX5_untaken_23 rfl (lv_at hl 1 rfl) ?_
          refine lv_iconst (v := nI 1) hx hb dX5_untaken_24 (by decide) ?_
          refine nr_iadd (cnt (ntB T) k + 1) (by omega) hx hb dX5_untaken_25 ?_
          refine lv_istore_n (lv' := [(1, .int (nI (cnt (ntB T) k + 1))), (2, .int (nI k)), (0, .ref g0)]) hx hb dX5_untaken_26 rfl hl (by decide) rfl (fun ls hl => ?_)
          refine lv_iinc (v := nI (k + 1)) (lv' := [(2, .int (nI (k + 1))), (1, .int (nI (cnt (ntB T) k + 1))), (0, .ref g0)]) hx hb dX5_untaken_27 hl (k := 1) rfl (nr_inc _ _ (by omega)) (by decide) rfl (fun ls hl => ?_)
          refine lv_goto (tgt := 4) hx hb dX5_untaken_30 (by decide) ?_
          rw [show cnt (ntB T) k + 1 = cnt (ntB T) (k + 1) by simp [cnt, ntB, c_7, c_16]] at hl
          exact ih_2 (k + 1) (by omega) (by omega) ls (lv_sub hl [0, 1, 2] rfl)
        · refine lv_iload_n hx hb dX5_untaken_19 rfl (lv_at hl 1 rfl) ?_
          refine lv_goto (tgt := 26) hx hb dX5_untaken_20 (by decide) ?_
          refine lv_istore_n (lv' := [(1, .int (nI (cnt (ntB T) k))), (2, .int (nI k)), (0, .ref g0)]) hx hb dX5_untaken_26 rfl hl (by decide) rfl (fun ls hl => ?_)
          refine lv_iinc (v := nI (k + 1)) (lv' := [(2, .int (nI (k + 1))), (1, .int (nI (cnt (ntB T) k))), (0, .ref g0)]) hx hb dX5_untaken_27 hl (k := 1) rfl (nr_inc _ _ (by omega)) (by decide) rfl (fun ls hl => ?_)
          refine lv_goto (tgt := 4) hx hb dX5_untaken_30 (by decide) ?_
          rw [show cnt (ntB T) k = cnt (ntB T) (k + 1) by simp [cnt, ntB, c_7, c_16]] at hl
          exact ih_2 (k + 1) (by omega) (by omega) ls (lv_sub hl [0, 1, 2] rfl)
  exact loop_1 (64 + 1) 0 (by omega) (by omega) ls (lv_sub hl [0, 1, 2] rfl)

set_option maxHeartbeats 4000000 in
set_option maxRecDepth 100000 in
theorem kX5_noControl_ok (l : Launch) (dd : va_G) (cI cZ cR cJ : ClassId) (g0 : Nat) (th : Nat) (U : Nat) (le : Bool) (wl : Nat) (wd : Int32) (qD : Nat) (qT : Nat) (qN : Nat) (qO : Nat) (qS : Nat) (qC : Nat) (qP : Nat) (qG : Nat) (qB : Nat) (qF : Nat) (qX : Nat) (ci : Nat) (sz : Nat) (hci : ci < 4) : Met l yX5_noControl wsX5_noControl ({ frames := 0, cells := 0, slots := 0, locals := 0 }) (va_Pc [.ref g0, .int (nI ci)] (qm dd cI cZ cR cJ sz [(g0, .inr (5, [.int (nI th), .ref qD, .ref qT, .int (nI U), .int (pI le wl), .int wd, .ref qN, .ref qO, .ref qS, .ref qC, .ref qP, .ref qG, .ref qB, .ref qF, .ref qX]))])) (va_Qi (fun (r : Int32) (u : Bool) => r = bI u ∧ (u = false)) (fun u t => qa dd (va_A [(g0, .inr (5, [.int (nI th), .ref qD, .ref qT, .int (nI U), .int (pI le wl), .int wd, .ref qN, .ref qO, .ref qS, .ref qC, .ref qP, .ref qG, .ref qB, .ref qF, .ref qX]))] sz) [(g0, .inr (5, [.int (nI 0), .ref qD, .ref qT, .int (nI U), .int (pI le wl), .int wd, .ref qN, .ref qO, .ref qS, .ref qC, .ref qP, .ref qG, .ref qB, .ref qF, .ref qX]))] t) (va_A [(g0, .inr (5, [.int (nI th), .ref qD, .ref qT, .int (nI U), .int (pI le wl), .int wd, .ref qN, .ref qO, .ref qS, .ref qC, .ref qP, .ref qG, .ref qB, .ref qF, .ref qX]))] sz)) 0 0 (va_A [(g0, .inr (5, [.int (nI th), .ref qD, .ref qT, .int (nI U), .int (pI le wl), .int wd, .ref qN, .ref qO, .ref qS, .ref qC, .ref qP, .ref qG, .ref qB, .ref qF, .ref qX]))] sz) := by
  refine mk_mut (cc := cX5_noControl) (maxL := 2) (ret := (some .boolean)) (Qf := fun A => va_Qi (fun (r : Int32) (u : Bool) => r = bI u ∧ (u = false)) (fun u t => qa dd A [(g0, .inr (5, [.int (nI 0), .ref qD, .ref qT, .int (nI U), .int (pI le wl), .int wd, .ref qN, .ref qO, .ref qS, .ref qC, .ref qP, .ref qG, .ref qB, .ref qF, .ref qX]))] t) A) (by decide) rfl (Nat.le_of_ble_eq_true rfl) ?_
  intro p e s m below meth c A hx hb hr hts hown hlocks hml hin hP hD hA hS hK ls hl
  have hown : s.vm.findClass RX5 = some m.cls := hown
  have hl : lv_has ls 2 [(0, .ref g0), (1, .int (nI ci))] := hl
  have hf_48 := hts (.fieldLink RX5 48 "RecordSystemModel" "thrown" "I") (by decide +kernel)
  have hin_X5 : ∀ w ∈ wsX50, w ∈ wsX5_noControl := by decide +kernel
  refine lv_aload_n hx hb dX5_noControl_0 rfl (lv_at hl 0 rfl) ?_
  refine lv_iload_n hx hb dX5_noControl_1 rfl (lv_at hl 1 rfl) ?_
  refine nr_if_lt (tgt := 10) hx hb (by omega) dX5_noControl_2 (by decide) ?_
  refine lv_iload_n hx hb dX5_noControl_5 rfl (lv_at hl 1 rfl) ?_
  refine lv_iconst (v := nI 3) hx hb dX5_noControl_6 (by decide) ?_
  refine nr_le (tgt := 14) hx hb (by omega) (by omega) dX5_noControl_7 (by decide) (fun c_7 => ?_) (fun c_7 => absurd c_7 (by omega))
  refine lv_iconst (v := nI 0) hx hb dX5_noControl_14 (by decide) ?_
  refine va_put (D := dd) (ci := 5) (v := .int (nI 0)) (ty := .int) (C := RX5) (T := TX5) (N := 15) hx hb hts hin_X5 tyX5 tyX5_ok nmX5 hown hK.1 hP hD hS 0 rfl rfl 0 (by decide) hf_48 (fun _ h9 => h9) rfl (by decide +kernel) rfl rfl (Nat.le_of_ble_eq_true rfl) dX5_noControl_15 (fun H locs hP hD hS => ?_)
  have hP : va_P dd vwCl [(g0, .inr (5, [.int (nI 0), .ref qD, .ref qT, .int (nI U), .int (pI le wl), .int wd, .ref qN, .ref qO, .ref qS, .ref qC, .ref qP, .ref qG, .ref qB, .ref qF, .ref qX]))] H := hP
  have hD : va_D A [(g0, .inr (5, [.int (nI 0), .ref qD, .ref qT, .int (nI U), .int (pI le wl), .int wd, .ref qN, .ref qO, .ref qS, .ref qC, .ref qP, .ref qG, .ref qB, .ref qF, .ref qX]))] := hD
  refine lv_aload_n hx hb dX5_noControl_18 rfl (lv_at hl 0 rfl) ?_
  refine va_get (D := dd) (ci := 5) (v := .int (nI 0)) (C := RX5) (T := TX5) (N := 15) hx hb hts hin_X5 hown hK.1 hP 0 rfl rfl 0 (by decide) hf_48 (fun _ h9 => h9) rfl dX5_noControl_19 ?_
  refine nr_if_le (tgt := 29) hx hb (by omega) dX5_noControl_22 (by decide) (fun c_22 => ?_) (fun c_22 => absurd c_22 (by omega))
  refine lv_iconst (v := nI 0) hx hb dX5_noControl_29 (by decide) ?_
  have hP9 := hP.sub (ws' := [(g0, .inr (5, [.int (nI 0), .ref qD, .ref qT, .int (nI U), .int (pI le wl), .int wd, .ref qN, .ref qO, .ref qS, .ref qC, .ref qP, .ref qG, .ref qB, .ref qF, .ref qX]))]) [0] rfl
  have hD9 := hD.sub (ws' := [(g0, .inr (5, [.int (nI 0), .ref qD, .ref qT, .int (nI U), .int (pI le wl), .int wd, .ref qN, .ref qO, .ref qS, .ref qC, .ref qP, .ref qG, .ref qB, .ref qF, .ref qX]))]) [0] (by decide) rfl
  exact W.zret (v := nI 0) hx hb hr (by decide) (fun t ht hW => ⟨⟨nI 0, false, rfl, ⟨rfl, rfl⟩, by rw [ht]; exact hP9, hD9⟩, hS.F ht⟩) hS.2.2 dX5_noControl_30

set_option maxHeartbeats 4000000 in
set_option maxRecDepth 100000 in
theorem kX5_noControl_bad (l : Launch) (dd : va_G) (cI cZ cR cJ : ClassId) (g0 : Nat) (th : Nat) (U : Nat) (le : Bool) (wl : Nat) (wd : Int32) (qD : Nat) (qT : Nat) (qN : Nat) (qO : Nat) (qS : Nat) (qC : Nat) (qP : Nat) (qG : Nat) (qB : Nat) (qF : Nat) (qX : Nat) (x : Int32) (sz : Nat) (hx3 : x < 0 ∨ ¬ x ≤ nI 3) : Met l yX5_noControl wsX5_noControl ({ frames := 0, cells := 0, slots := 0, locals := 0 }) (va_Pc [.ref g0, .int x] (qm dd cI cZ cR cJ sz [(g0, .inr (5, [.int (nI th), .ref qD, .ref qT, .int (nI U), .int (pI le wl), .int wd, .ref qN, .ref qO, .ref qS, .ref qC, .ref qP, .ref qG, .ref qB, .ref qF, .ref qX]))])) (va_Qi (fun (r : Int32) (u : Bool) => r = bI u ∧ (u = true)) (fun u t => qa dd (va_A [(g0, .inr (5, [.int (nI th), .ref qD, .ref qT, .int (nI U), .int (pI le wl), .int wd, .ref qN, .ref qO, .ref qS, .ref qC, .ref qP, .ref qG, .ref qB, .ref qF, .ref qX]))] sz) [(g0, .inr (5, [.int (nI 1), .ref qD, .ref qT, .int (nI U), .int (pI le wl), .int wd, .ref qN, .ref qO, .ref qS, .ref qC, .ref qP, .ref qG, .ref qB, .ref qF, .ref qX]))] t) (va_A [(g0, .inr (5, [.int (nI th), .ref qD, .ref qT, .int (nI U), .int (pI le wl), .int wd, .ref qN, .ref qO, .ref qS, .ref qC, .ref qP, .ref qG, .ref qB, .ref qF, .ref qX]))] sz)) 0 0 (va_A [(g0, .inr (5, [.int (nI th), .ref qD, .ref qT, .int (nI U), .int (pI le wl), .int wd, .ref qN, .ref qO, .ref qS, .ref qC, .ref qP, .ref qG, .ref qB, .ref qF, .ref qX]))] sz) := by
  refine mk_mut (cc := cX5_noControl) (maxL := 2) (ret := (some .boolean)) (Qf := fun A => va_Qi (fun (r : Int32) (u : Bool) => r = bI u ∧ (u = true)) (fun u t => qa dd A [(g0, .inr (5, [.int (nI 1), .ref qD, .ref qT, .int (nI U), .int (pI le wl), .int wd, .ref qN, .ref qO, .ref qS, .ref qC, .ref qP, .ref qG, .ref qB, .ref qF, .ref qX]))] t) A) (by decide) rfl (Nat.le_of_ble_eq_true rfl) ?_
  intro p e s m below meth c A hx hb hr hts hown hlocks hml hin hP hD hA hS hK ls hl
  have hown : s.vm.findClass RX5 = some m.cls := hown
  have hl : lv_has ls 2 [(0, .ref g0), (1, .int x)] := hl
  have hf_48 := hts (.fieldLink RX5 48 "RecordSystemModel" "thrown" "I") (by decide +kernel)
  have hin_X5 : ∀ w ∈ wsX50, w ∈ wsX5_noControl := by decide +kernel
  refine lv_aload_n hx hb dX5_noControl_0 rfl (lv_at hl 0 rfl) ?_
  refine lv_iload_n hx hb dX5_noControl_1 rfl (lv_at hl 1 rfl) ?_
  refine lv_if_lt (tgt := 10) hx hb dX5_noControl_2 (by decide) (fun c_2 => ?_) (fun c_2 => ?_)
  · refine lv_iconst (v := nI 1) hx hb dX5_noControl_10 (by decide) ?_
    refine lv_goto (tgt := 15) hx hb dX5_noControl_11 (by decide) ?_
    refine va_put (D := dd) (ci := 5) (v := .int (nI 1)) (ty := .int) (C := RX5) (T := TX5) (N := 15) hx hb hts hin_X5 tyX5 tyX5_ok nmX5 hown hK.1 hP hD hS 0 rfl rfl 0 (by decide) hf_48 (fun _ h9 => h9) rfl (by decide +kernel) rfl rfl (Nat.le_of_ble_eq_true rfl) dX5_noControl_15 (fun H locs hP hD hS => ?_)
    have hP : va_P dd vwCl [(g0, .inr (5, [.int (nI 1), .ref qD, .ref qT, .int (nI U), .int (pI le wl), .int wd, .ref qN, .ref qO, .ref qS, .ref qC, .ref qP, .ref qG, .ref qB, .ref qF, .ref qX]))] H := hP
    have hD : va_D A [(g0, .inr (5, [.int (nI 1), .ref qD, .ref qT, .int (nI U), .int (pI le wl), .int wd, .ref qN, .ref qO, .ref qS, .ref qC, .ref qP, .ref qG, .ref qB, .ref qF, .ref qX]))] := hD
    refine lv_aload_n hx hb dX5_noControl_18 rfl (lv_at hl 0 rfl) ?_
    refine va_get (D := dd) (ci := 5) (v := .int (nI 1)) (C := RX5) (T := TX5) (N := 15) hx hb hts hin_X5 hown hK.1 hP 0 rfl rfl 0 (by decide) hf_48 (fun _ h9 => h9) rfl dX5_noControl_19 ?_
    refine nr_if_le (tgt := 29) hx hb (by omega) dX5_noControl_22 (by decide) (fun c_22 => absurd c_22 (by omega)) (fun c_22 => ?_)
    refine lv_iconst (v := nI 1) hx hb dX5_noControl_25 (by decide) ?_
    refine lv_goto (tgt := 30) hx hb dX5_noControl_26 (by decide) ?_
    have hP9 := hP.sub (ws' := [(g0, .inr (5, [.int (nI 1), .ref qD, .ref qT, .int (nI U), .int (pI le wl), .int wd, .ref qN, .ref qO, .ref qS, .ref qC, .ref qP, .ref qG, .ref qB, .ref qF, .ref qX]))]) [0] rfl
    have hD9 := hD.sub (ws' := [(g0, .inr (5, [.int (nI 1), .ref qD, .ref qT, .int (nI U), .int (pI le wl), .int wd, .ref qN, .ref qO, .ref qS, .ref qC, .ref qP, .ref qG, .ref qB, .ref qF, .ref qX]))]) [0] (by decide) rfl
    exact W.zret (v := nI 1) hx hb hr (by decide) (fun t ht hW => ⟨⟨nI 1, true, rfl, ⟨rfl, rfl⟩, by rw [ht]; exact hP9, hD9⟩, hS.F ht⟩) hS.2.2 dX5_noControl_30
  · refine lv_iload_n hx hb dX5_noControl_5 rfl (lv_at hl 1 rfl) ?_
    refine lv_iconst (v := nI 3) hx hb dX5_noControl_6 (by decide) ?_
    refine lv_icmp_le (tgt := 14) hx hb dX5_noControl_7 (by decide) (fun c_7 => absurd c_7 (hx3.resolve_left c_2)) (fun c_7 => ?_)
    refine lv_iconst (v := nI 1) hx hb dX5_noControl_10 (by decide) ?_
    refine lv_goto (tgt := 15) hx hb dX5_noControl_11 (by decide) ?_
    refine va_put (D := dd) (ci := 5) (v := .int (nI 1)) (ty := .int) (C := RX5) (T := TX5) (N := 15) hx hb hts hin_X5 tyX5 tyX5_ok nmX5 hown hK.1 hP hD hS 0 rfl rfl 0 (by decide) hf_48 (fun _ h9 => h9) rfl (by decide +kernel) rfl rfl (Nat.le_of_ble_eq_true rfl) dX5_noControl_15 (fun H locs hP hD hS => ?_)
    have hP : va_P dd vwCl [(g0, .inr (5, [.int (nI 1), .ref qD, .ref qT, .int (nI U), .int (pI le wl), .int wd, .ref qN, .ref qO, .ref qS, .ref qC, .ref qP, .ref qG, .ref qB, .ref qF, .ref qX]))] H := hP
    have hD : va_D A [(g0, .inr (5, [.int (nI 1), .ref qD, .ref qT, .int (nI U), .int (pI le wl), .int wd, .ref qN, .ref qO, .ref qS, .ref qC, .ref qP, .ref qG, .ref qB, .ref qF, .ref qX]))] := hD
    refine lv_aload_n hx hb dX5_noControl_18 rfl (lv_at hl 0 rfl) ?_
    refine va_get (D := dd) (ci := 5) (v := .int (nI 1)) (C := RX5) (T := TX5) (N := 15) hx hb hts hin_X5 hown hK.1 hP 0 rfl rfl 0 (by decide) hf_48 (fun _ h9 => h9) rfl dX5_noControl_19 ?_
    refine nr_if_le (tgt := 29) hx hb (by omega) dX5_noControl_22 (by decide) (fun c_22 => absurd c_22 (by omega)) (fun c_22 => ?_)
    refine lv_iconst (v := nI 1) hx hb dX5_noControl_25 (by decide) ?_
    refine lv_goto (tgt := 30) hx hb dX5_noControl_26 (by decide) ?_
    have hP9 := hP.sub (ws' := [(g0, .inr (5, [.int (nI 1), .ref qD, .ref qT, .int (nI U), .int (pI le wl), .int wd, .ref qN, .ref qO, .ref qS, .ref qC, .ref qP, .ref qG, .ref qB, .ref qF, .ref qX]))]) [0] rfl
    have hD9 := hD.sub (ws' := [(g0, .inr (5, [.int (nI 1), .ref qD, .ref qT, .int (nI U), .int (pI le wl), .int wd, .ref qN, .ref qO, .ref qS, .ref qC, .ref qP, .ref qG, .ref qB, .ref qF, .ref qX]))]) [0] (by decide) rfl
    exact W.zret (v := nI 1) hx hb hr (by decide) (fun t ht hW => ⟨⟨nI 1, true, rfl, ⟨rfl, rfl⟩, by rw [ht]; exact hP9, hD9⟩, hS.F ht⟩) hS.2.2 dX5_noControl_30

set_option maxHeartbeats 4000000 in
set_option maxRecDepth 100000 in
theorem kX5_take (l : Launch) (dd : va_G) (cI cZ cR cJ : ClassId) (g0 : Nat) (th : Nat) (U : Nat) (le : Bool) (wl : Nat) (wd : Int32) (qD : Nat) (qT : Nat) (qN : Nat) (qO : Nat) (qS : Nat) (qC : Nat) (qP : Nat) (qG : Nat) (qB : Nat) (qF : Nat) (qX : Nat) (D : Nat → Nat) (sts : Nat → Nat) (cts : Nat → Nat) (bls : Nat → Nat → Nat) (ci : Nat) (en : Nat) (sz : Nat) (hci : ci < 4) (he : en < 32) : Met l yX5_take wsX5_take ({ frames := 0, cells := 0, slots := 0, locals := 0 }) (va_Pc [.ref g0, .int (nI ci), .int (nI en)] (qm dd cI cZ cR cJ sz [(g0, .inr (5, [.int (nI th), .ref qD, .ref qT, .int (nI U), .int (pI le wl), .int wd, .ref qN, .ref qO, .ref qS, .ref qC, .ref qP, .ref qG, .ref qB, .ref qF, .ref qX])), (qD, .inl (cI, 4096, .inl (aN D))), (qS, .inl (cI, 4, .inl (aN sts))), (qC, .inl (cI, 4, .inl (aN cts))), (qB, .inl (cI, 28, .inl (aN (fB bls))))])) (va_Qv (fun u : Unit => True) (fun u t => qa dd (va_A [(g0, .inr (5, [.int (nI th), .ref qD, .ref qT, .int (nI U), .int (pI le wl), .int wd, .ref qN, .ref qO, .ref qS, .ref qC, .ref qP, .ref qG, .ref qB, .ref qF, .ref qX])), (qD, .inl (cI, 4096, .inl (aN D))), (qS, .inl (cI, 4, .inl (aN sts))), (qC, .inl (cI, 4, .inl (aN cts))), (qB, .inl (cI, 28, .inl (aN (fB bls))))] sz) [(g0, .inr (5, [.int (nI th), .ref qD, .ref qT, .int (nI U), .int (pI le wl), .int wd, .ref qN, .ref qO, .ref qS, .ref qC, .ref qP, .ref qG, .ref qB, .ref qF, .ref qX])), (qD, .inl (cI, 4096, .inl (aN D))), (qS, .inl (cI, 4, .inl (aN (va_up sts ci (D (16 * en + 7)))))), (qC, .inl (cI, 4, .inl (aN (va_up cts ci (D (16 * en + 8)))))), (qB, .inl (cI, 28, .inl (aN (fB (va_up bls ci (va_cpy D (bls ci) (16 * en + 9) 0 7))))))] t) (va_A [(g0, .inr (5, [.int (nI th), .ref qD, .ref qT, .int (nI U), .int (pI le wl), .int wd, .ref qN, .ref qO, .ref qS, .ref qC, .ref qP, .ref qG, .ref qB, .ref qF, .ref qX])), (qD, .inl (cI, 4096, .inl (aN D))), (qS, .inl (cI, 4, .inl (aN sts))), (qC, .inl (cI, 4, .inl (aN cts))), (qB, .inl (cI, 28, .inl (aN (fB bls))))] sz)) 0 0 (va_A [(g0, .inr (5, [.int (nI th), .ref qD, .ref qT, .int (nI U), .int (pI le wl), .int wd, .ref qN, .ref qO, .ref qS, .ref qC, .ref qP, .ref qG, .ref qB, .ref qF, .ref qX])), (qD, .inl (cI, 4096, .inl (aN D))), (qS, .inl (cI, 4, .inl (aN sts))), (qC, .inl (cI, 4, .inl (aN cts))), (qB, .inl (cI, 28, .inl (aN (fB bls))))] sz) := by
  refine mk_mut (cc := cX5_take) (maxL := 4) (ret := none) (Qf := fun A => va_Qv (fun u : Unit => True) (fun u t => qa dd A [(g0, .inr (5, [.int (nI th), .ref qD, .ref qT, .int (nI U), .int (pI le wl), .int wd, .ref qN, .ref qO, .ref qS, .ref qC, .ref qP, .ref qG, .ref qB, .ref qF, .ref qX])), (qD, .inl (cI, 4096, .inl (aN D))), (qS, .inl (cI, 4, .inl (aN (va_up sts ci (D (16 * en + 7)))))), (qC, .inl (cI, 4, .inl (aN (va_up cts ci (D (16 * en + 8)))))), (qB, .inl (cI, 28, .inl (aN (fB (va_up bls ci (va_cpy D (bls ci) (16 * en + 9) 0 7))))))] t) A) (by decide) rfl (Nat.le_of_ble_eq_true rfl) ?_
  intro p e s m below meth c A hx hb hr hts hown hlocks hml hin hP hD hA hS hK ls hl
  have hown : s.vm.findClass RX5 = some m.cls := hown
  have hl : lv_has ls 4 [(0, .ref g0), (1, .int (nI ci)), (2, .int (nI en))] := hl
  have hf_27 := hts (.fieldLink RX5 27 "RecordSystemModel" "stretch" "[I") (by decide +kernel)
  have hin_X5 : ∀ w ∈ wsX50, w ∈ wsX5_take := by decide +kernel
  have hf_7 := hts (.fieldLink RX5 7 "RecordSystemModel" "disk" "[I") (by decide +kernel)
  have hf_30 := hts (.fieldLink RX5 30 "RecordSystemModel" "count" "[I") (by decide +kernel)
  have hf_39 := hts (.fieldLink RX5 39 "RecordSystemModel" "blocks" "[I") (by decide +kernel)
  refine lv_aload_n hx hb dX5_take_0 rfl (lv_at hl 0 rfl) ?_
  refine va_get (D := dd) (ci := 5) (v := .ref qS) (C := RX5) (T := TX5) (N := 15) hx hb hts hin_X5 hown hK.1 hP 0 rfl rfl 8 (by decide) hf_27 (fun _ h9 => h9) rfl dX5_take_1 ?_
  refine lv_iload_n hx hb dX5_take_4 rfl (lv_at hl 1 rfl) ?_
  refine lv_aload_n hx hb dX5_take_5 rfl (lv_at hl 0 rfl) ?_
  refine va_get (D := dd) (ci := 5) (v := .ref qD) (C := RX5) (T := TX5) (N := 15) hx hb hts hin_X5 hown hK.1 hP 0 rfl rfl 1 (by decide) hf_7 (fun _ h9 => h9) rfl dX5_take_6 ?_
  refine lv_bipush (v := nI 16) hx hb dX5_take_9 (by decide) ?_
  refine lv_iload_n hx hb dX5_take_11 rfl (lv_at hl 2 rfl) ?_
  refine nr_imul (16 * en) (by omega) hx hb dX5_take_12 ?_
  refine lv_bipush (v := nI 7) hx hb dX5_take_13 (by decide) ?_
  refine nr_iadd (16 * en + 7) (by omega) hx hb dX5_take_15 ?_
  refine nr_iald (f := D) hx hb hK hP 1 rfl (by omega) (by decide) dX5_take_16 ?_
  refine nr_iast (f := sts) (v := D (16 * en + 7)) hx hb hK hP hD hS 2 rfl (by omega) (by decide) dX5_take_17 (fun H locs hP hD hS => ?_)
  have hP : va_P dd vwCl [(g0, .inr (5, [.int (nI th), .ref qD, .ref qT, .int (nI U), .int (pI le wl), .int wd, .ref qN, .ref qO, .ref qS, .ref qC, .ref qP, .ref qG, .ref qB, .ref qF, .ref qX])), (qD, .inl (cI, 4096, .inl (aN D))), (qS, .inl (cI, 4, .inl (aN (va_up sts ci (D (16 * en + 7)))))), (qC, .inl (cI, 4, .inl (aN cts))), (qB, .inl (cI, 28, .inl (aN (fB bls))))] H := hP
  have hD : va_D A [(g0, .inr (5, [.int (nI th), .ref qD, .ref qT, .int (nI U), .int (pI le wl), .int wd, .ref qN, .ref qO, .ref qS, .ref qC, .ref qP, .ref qG, .ref qB, .ref qF, .ref qX])), (qD, .inl (cI, 4096, .inl (aN D))), (qS, .inl (cI, 4, .inl (aN (va_up sts ci (D (16 * en + 7)))))), (qC, .inl (cI, 4, .inl (aN cts))), (qB, .inl (cI, 28, .inl (aN (fB bls))))] := hD
  refine lv_aload_n hx hb dX5_take_18 rfl (lv_at hl 0 rfl) ?_
  refine va_get (D := dd) (ci := 5) (v := .ref qC) (C := RX5) (T := TX5) (N := 15) hx hb hts hin_X5 hown hK.1 hP 0 rfl rfl 9 (by decide) hf_30 (fun _ h9 => h9) rfl dX5_take_19 ?_
  refine lv_iload_n hx hb dX5_take_22 rfl (lv_at hl 1 rfl) ?_
  refine lv_aload_n hx hb dX5_take_23 rfl (lv_at hl 0 rfl) ?_
  refine va_get (D := dd) (ci := 5) (v := .ref qD) (C := RX5) (T := TX5) (N := 15) hx hb hts hin_X5 hown hK.1 hP 0 rfl rfl 1 (by decide) hf_7 (fun _ h9 => h9) rfl dX5_take_24 ?_
  refine lv_bipush (v := nI 16) hx hb dX5_take_27 (by decide) ?_
  refine lv_iload_n hx hb dX5_take_29 rfl (lv_at hl 2 rfl) ?_
  refine nr_imul (16 * en) (by omega) hx hb dX5_take_30 ?_
  refine lv_bipush (v := nI 8) hx hb dX5_take_31 (by decide) ?_
  refine nr_iadd (16 * en + 8) (by omega) hx hb dX5_take_33 ?_
  refine nr_iald (f := D) hx hb hK hP 1 rfl (by omega) (by decide) dX5_take_34 ?_
  refine nr_iast (f := cts) (v := D (16 * en + 8)) hx hb hK hP hD hS 3 rfl (by omega) (by decide) dX5_take_35 (fun H locs hP hD hS => ?_)
  have hP : va_P dd vwCl [(g0, .inr (5, [.int (nI th), .ref qD, .ref qT, .int (nI U), .int (pI le wl), .int wd, .ref qN, .ref qO, .ref qS, .ref qC, .ref qP, .ref qG, .ref qB, .ref qF, .ref qX])), (qD, .inl (cI, 4096, .inl (aN D))), (qS, .inl (cI, 4, .inl (aN (va_up sts ci (D (16 * en + 7)))))), (qC, .inl (cI, 4, .inl (aN (va_up cts ci (D (16 * en + 8)))))), (qB, .inl (cI, 28, .inl (aN (fB bls))))] H := hP
  have hD : va_D A [(g0, .inr (5, [.int (nI th), .ref qD, .ref qT, .int (nI U), .int (pI le wl), .int wd, .ref qN, .ref qO, .ref qS, .ref qC, .ref qP, .ref qG, .ref qB, .ref qF, .ref qX])), (qD, .inl (cI, 4096, .inl (aN D))), (qS, .inl (cI, 4, .inl (aN (va_up sts ci (D (16 * en + 7)))))), (qC, .inl (cI, 4, .inl (aN (va_up cts ci (D (16 * en + 8)))))), (qB, .inl (cI, 28, .inl (aN (fB bls))))] := hD
  refine lv_iconst (v := nI 0) hx hb dX5_take_36 (by decide) ?_
  refine lv_istore_n (lv' := [(3, .int (nI 0)), (0, .ref g0), (1, .int (nI ci)), (2, .int (nI en))]) hx hb dX5_take_37 rfl hl (by decide) rfl (fun ls hl => ?_)
  have loop_1 : ∀ (n k : Nat), k ≤ 7 → 7 + 1 ≤ k + n → ∀ (H : Heap) (locs : List Loc), va_P dd vwCl [(g0, .inr (5, [.int (nI th), .ref qD, .ref qT, .int (nI U), .int (pI le wl), .int wd, .ref qN, .ref qO, .ref qS, .ref qC, .ref qP, .ref qG, .ref qB, .ref qF, .ref qX])), (qD, .inl (cI, 4096, .inl (aN D))), (qS, .inl (cI, 4, .inl (aN (va_up sts ci (D (16 * en + 7)))))), (qC, .inl (cI, 4, .inl (aN (va_up cts ci (D (16 * en + 8)))))), (qB, .inl (cI, 28, .inl (aN (fB (va_up bls ci (va_cpy D (bls ci) (16 * en + 9) 0 k))))))] H → va_D A [(g0, .inr (5, [.int (nI th), .ref qD, .ref qT, .int (nI U), .int (pI le wl), .int wd, .ref qN, .ref qO, .ref qS, .ref qC, .ref qP, .ref qG, .ref qB, .ref qF, .ref qX])), (qD, .inl (cI, 4096, .inl (aN D))), (qS, .inl (cI, 4, .inl (aN (va_up sts ci (D (16 * en + 7)))))), (qC, .inl (cI, 4, .inl (aN (va_up cts ci (D (16 * en + 8)))))), (qB, .inl (cI, 28, .inl (aN (fB (va_up bls ci (va_cpy D (bls ci) (16 * en + 9) 0 k))))))] → va_S A s.heap H locs → ∀ ls : Array Slot, lv_has ls 4 [(3, .int (nI k)), (0, .ref g0), (1, .int (nI ci)), (2, .int (nI en))] → W p l e (({ frames := 0, cells := 0, slots := 0, locals := 0 } : Room)) s m ([.ref g0, .int (nI ci), .int (nI en)] : List Value).toArray below meth c H locs 0 0 (MQ below (va_Qv (fun u : Unit => True) (fun u t => qa dd A [(g0, .inr (5, [.int (nI th), .ref qD, .ref qT, .int (nI U), .int (pI le wl), .int wd, .ref qN, .ref qO, .ref qS, .ref qC, .ref qP, .ref qG, .ref qB, .ref qF, .ref qX])), (qD, .inl (cI, 4096, .inl (aN D))), (qS, .inl (cI, 4, .inl (aN (va_up sts ci (D (16 * en + 7)))))), (qC, .inl (cI, 4, .inl (aN (va_up cts ci (D (16 * en + 8)))))), (qB, .inl (cI, 28, .inl (aN (fB (va_up bls ci (va_cpy D (bls ci) (16 * en + 9) 0 7))))))] t) A) ([.ref g0, .int (nI ci), .int (nI en)] : List Value).toArray s 0 0 A) (F0 m 38 ls []) := by
    intro n
    induction n with
    | zero => intro k h1 h2; exact absurd h2 (by omega)
    | succ n ih =>
      intro k hk_k hn_k H locs hP hD hS ls hl
      have ih_2 := ih
      refine lv_iload_n hx hb dX5_take_38 rfl (lv_at hl 0 rfl) ?_
      refine lv_bipush (v := nI 7) hx hb dX5_take_39 (by decide) ?_
      refine nr_ge (tgt := 75) hx hb (by omega) (by omega) dX5_take_41 (by decide) (fun c_41 => ?_) (fun c_41 => ?_)
      · have ek_k : k = 7 := by omega
        subst ek_k
        have hP9 := hP.sub (ws' := [(g0, .inr (5, [.int (nI th), .ref qD, .ref qT, .int (nI U), .int (pI le wl), .int wd, .ref qN, .ref qO, .ref qS, .ref qC, .ref qP, .ref qG, .ref qB, .ref qF, .ref qX])), (qD, .inl (cI, 4096, .inl (aN D))), (qS, .inl (cI, 4, .inl (aN (va_up sts ci (D (16 * en + 7)))))), (qC, .inl (cI, 4, .inl (aN (va_up cts ci (D (16 * en + 8)))))), (qB, .inl (cI, 28, .inl (aN (fB (va_up bls ci (va_cpy D (bls ci) (16 * en + 9) 0 7))))))]) [0, 1, 2, 3, 4] rfl
        have hD9 := hD.sub (ws' := [(g0, .inr (5, [.int (nI th), .ref qD, .ref qT, .int (nI U), .int (pI le wl), .int wd, .ref qN, .ref qO, .ref qS, .ref qC, .ref qP, .ref qG, .ref qB, .ref qF, .ref qX])), (qD, .inl (cI, 4096, .inl (aN D))), (qS, .inl (cI, 4, .inl (aN (va_up sts ci (D (16 * en + 7)))))), (qC, .inl (cI, 4, .inl (aN (va_up cts ci (D (16 * en + 8)))))), (qB, .inl (cI, 28, .inl (aN (fB (va_up bls ci (va_cpy D (bls ci) (16 * en + 9) 0 7))))))]) [0, 1, 2, 3, 4] (by decide) rfl
        exact W.vret hx hb hr (fun t ht hW => ⟨⟨(), rfl, trivial, by rw [ht]; exact hP9, hD9⟩, hS.F ht⟩) hS.2.2 dX5_take_75
      · refine lv_aload_n hx hb dX5_take_44 rfl (lv_at hl 1 rfl) ?_
        refine va_get (D := dd) (ci := 5) (v := .ref qB) (C := RX5) (T := TX5) (N := 15) hx hb hts hin_X5 hown hK.1 hP 0 rfl rfl 12 (by decide) hf_39 (fun _ h9 => h9) rfl dX5_take_45 ?_
        refine lv_bipush (v := nI 7) hx hb dX5_take_48 (by decide) ?_
        refine lv_iload_n hx hb dX5_take_50 rfl (lv_at hl 2 rfl) ?_
        refine nr_imul (7 * ci) (by omega) hx hb dX5_take_51 ?_
        refine lv_iload_n hx hb dX5_take_52 rfl (lv_at hl 0 rfl) ?_
        refine nr_iadd (7 * ci + k) (by omega) hx hb dX5_take_53 ?_
        refine lv_aload_n hx hb dX5_take_54 rfl (lv_at hl 1 rfl) ?_
        refine va_get (D := dd) (ci := 5) (v := .ref qD) (C := RX5) (T := TX5) (N := 15) hx hb hts hin_X5 hown hK.1 hP 0 rfl rfl 1 (by decide) hf_7 (fun _ h9 => h9) rfl dX5_take_55 ?_
        refine lv_bipush (v := nI 16) hx hb dX5_take_58 (by decide) ?_
        refine lv_iload_n hx hb dX5_take_60 rfl (lv_at hl 3 rfl) ?_
        refine nr_imul (16 * en) (by omega) hx hb dX5_take_61 ?_
        refine lv_bipush (v := nI 9) hx hb dX5_take_62 (by decide) ?_
        refine nr_iadd (16 * en + 9) (by omega) hx hb dX5_take_64 ?_
        refine lv_iload_n hx hb dX5_take_65 rfl (lv_at hl 0 rfl) ?_
        refine nr_iadd (16 * en + k + 9) (by omega) hx hb dX5_take_66 ?_
        refine nr_iald (f := D) hx hb hK hP 1 rfl (by omega) (by decide) dX5_take_67 ?_
        refine nr_iast (f := fB (va_up bls ci (va_cpy D (bls ci) (16 * en + 9) 0 k))) (v := D (16 * en + k + 9)) hx hb hK hP hD hS 4 rfl (by omega) (by decide) dX5_take_68 (fun H locs hP hD hS => ?_)
        have hP : va_P dd vwCl [(g0, .inr (5, [.int (nI th), .ref qD, .ref qT, .int (nI U), .int (pI le wl), .int wd, .ref qN, .ref qO, .ref qS, .ref qC, .ref qP, .ref qG, .ref qB, .ref qF, .ref qX])), (qD, .inl (cI, 4096, .inl (aN D))), (qS, .inl (cI, 4, .inl (aN (va_up sts ci (D (16 * en + 7)))))), (qC, .inl (cI, 4, .inl (aN (va_up cts ci (D (16 * en + 8)))))), (qB, .inl (cI, 28, .inl (aN (va_up (fB (va_up bls ci (va_cpy D (bls ci) (16 * en + 9) 0 k))) (7 * ci + k) (D (16 * en + k + 9))))))] H := hP
        have hD : va_D A [(g0, .inr (5, [.int (nI th), .ref qD, .ref qT, .int (nI U), .int (pI le wl), .int wd, .ref qN, .ref qO, .ref qS, .ref qC, .ref qP, .ref qG, .ref qB, .ref qF, .ref qX])), (qD, .inl (cI, 4096, .inl (aN D))), (qS, .inl (cI, 4, .inl (aN (va_up sts ci (D (16 * en + 7)))))), (qC, .inl (cI, 4, .inl (aN (va_up cts ci (D (16 * en + 8)))))), (qB, .inl (cI, 28, .inl (aN (va_up (fB (va_up bls ci (va_cpy D (bls ci) (16 * en + 9) 0 k))) (7 * ci + k) (D (16 * en + k + 9))))))] := hD
        have hu_3 : va_up (fB (va_up bls ci (va_cpy D (bls ci) (16 * en + 9) 0 k))) (7 * ci + k) (D (16 * en + k + 9)) = fB (va_up bls ci (va_cpy D (bls ci) (16 * en + 9) 0 (k + 1))) := by rw [fB_up (k := k) (by omega) (by omega), cpy_up (by omega) (by congr 1; omega)]
        rw [hu_3] at hP hD
        refine lv_iinc (v := nI (k + 1)) (lv' := [(3, .int (nI (k + 1))), (0, .ref g0), (1, .int (nI ci)), (2, .int (nI en))]) hx hb dX5_take_69 hl (k := 0) rfl (nr_inc _ _ (by omega)) (by decide) rfl (fun ls hl => ?_)
        refine lv_goto (tgt := 38) hx hb dX5_take_72 (by decide) ?_
        exact ih_2 (k + 1) (by omega) (by omega) _ _ hP hD hS ls (lv_sub hl [0, 1, 2, 3] rfl)
  exact loop_1 (7 + 1) 0 (by omega) (by omega) _ _ (by rw [cpy_0, up_id]; exact hP) (by rw [cpy_0, up_id]; exact hD) hS ls (lv_sub hl [0, 1, 2, 3] rfl)
