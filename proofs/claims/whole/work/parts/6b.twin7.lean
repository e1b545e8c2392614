set_option maxHeartbeats 4000000 in
set_option maxRecDepth 100000 in
theorem kX5_erase (l : Launch) (dd : va_G) (cI cZ cR cJ : ClassId) (g0 : Nat) (th : Nat) (U : Nat) (le : Bool) (wl : Nat) (wd : Int32) (qD : Nat) (qT : Nat) (qN : Nat) (qO : Nat) (qS : Nat) (qC : Nat) (qP : Nat) (qG : Nat) (qB : Nat) (qF : Nat) (qX : Nat) (D : Nat → Nat) (T : Nat → Bool) (nms : Nat → Nat → Nat) (ci : Nat) (sz : Nat) (hci : ci < 4) (hDb : ∀ j, D j < 256) (hwl : wl ≤ 1000) (hnb : ∀ i j, nms i j < 128) (hUb : U < 16) (hT8 : ∀ b, b < 8 → T b = true) : Met l yX5_erase wsX5_erase ({ frames := 2, cells := 0, slots := 0, locals := 50 }) (va_Pc [.ref g0, .int (nI ci)] (qm dd cI cZ cR cJ sz [(g0, .inr (5, [.int (nI th), .ref qD, .ref qT, .int (nI U), .int (pI le wl), .int wd, .ref qN, .ref qO, .ref qS, .ref qC, .ref qP, .ref qG, .ref qB, .ref qF, .ref qX])), (qD, .inl (cI, 4096, .inl (aN D))), (qT, .inl (cZ, 64, .inl (aB T))), (qN, .inl (cI, 24, .inl (aN (fN nms))))])) (va_Qi (fun (r : Int32) (u : (Nat → Nat) × (Nat → Bool) × Nat × Int32) => (r, u.1, u.2.1, u.2.2.1, u.2.2.2) = mErase le D T wl wd U (nms ci)) (fun u t => qa dd (va_A [(g0, .inr (5, [.int (nI th), .ref qD, .ref qT, .int (nI U), .int (pI le wl), .int wd, .ref qN, .ref qO, .ref qS, .ref qC, .ref qP, .ref qG, .ref qB, .ref qF, .ref qX])), (qD, .inl (cI, 4096, .inl (aN D))), (qT, .inl (cZ, 64, .inl (aB T))), (qN, .inl (cI, 24, .inl (aN (fN nms))))] sz) [(g0, .inr (5, [.int (nI 0), .ref qD, .ref qT, .int (nI U), .int (pI le u.2.2.1), .int u.2.2.2, .ref qN, .ref qO, .ref qS, .ref qC, .ref qP, .ref qG, .ref qB, .ref qF, .ref qX])), (qD, .inl (cI, 4096, .inl (aN u.1))), (qT, .inl (cZ, 64, .inl (aB u.2.1))), (qN, .inl (cI, 24, .inl (aN (fN nms))))] t) (va_A [(g0, .inr (5, [.int (nI th), .ref qD, .ref qT, .int (nI U), .int (pI le wl), .int wd, .ref qN, .ref qO, .ref qS, .ref qC, .ref qP, .ref qG, .ref qB, .ref qF, .ref qX])), (qD, .inl (cI, 4096, .inl (aN D))), (qT, .inl (cZ, 64, .inl (aB T))), (qN, .inl (cI, 24, .inl (aN (fN nms))))] sz)) 0 0 (va_A [(g0, .inr (5, [.int (nI th), .ref qD, .ref qT, .int (nI U), .int (pI le wl), .int wd, .ref qN, .ref qO, .ref qS, .ref qC, .ref qP, .ref qG, .ref qB, .ref qF, .ref qX])), (qD, .inl (cI, 4096, .inl (aN D))), (qT, .inl (cZ, 64, .inl (aB T))), (qN, .inl (cI, 24, .inl (aN (fN nms))))] sz) := by
  refine mk_mut (cc := cX5_erase) (maxL := 6) (ret := (some .int)) (Qf := fun A => va_Qi (fun (r : Int32) (u : (Nat → Nat) × (Nat → Bool) × Nat × Int32) => (r, u.1, u.2.1, u.2.2.1, u.2.2.2) = mErase le D T wl wd U (nms ci)) (fun u t => qa dd A [(g0, .inr (5, [.int (nI 0), .ref qD, .ref qT, .int (nI U), .int (pI le u.2.2.1), .int u.2.2.2, .ref qN, .ref qO, .ref qS, .ref qC, .ref qP, .ref qG, .ref qB, .ref qF, .ref qX])), (qD, .inl (cI, 4096, .inl (aN u.1))), (qT, .inl (cZ, 64, .inl (aB u.2.1))), (qN, .inl (cI, 24, .inl (aN (fN nms))))] t) A) (by decide) rfl (Nat.le_of_ble_eq_true rfl) ?_
  intro p e s m below meth c A hx hb hr hts hown hlocks hml hin hP hD hA hS hK ls hl
  have hown : s.vm.findClass RX5 = some m.cls := hown
  have hl : lv_has ls 6 [(0, .ref g0), (1, .int (nI ci))] := hl
  have hf_7 := hts (.fieldLink RX5 7 "RecordSystemModel" "disk" "[I") (by decide +kernel)
  have hin_X5 : ∀ w ∈ wsX50, w ∈ wsX5_erase := by decide +kernel
  have hf_13 := hts (.fieldLink RX5 13 "RecordSystemModel" "taken" "[Z") (by decide +kernel)
  refine lv_aload_n hx hb dX5_erase_0 rfl (lv_at hl 0 rfl) ?_
  refine lv_iload_n hx hb dX5_erase_1 rfl (lv_at hl 1 rfl) ?_
  refine cm_i (wc := [(g0, .inr (5, [.int (nI th), .ref qD, .ref qT, .int (nI U), .int (pI le wl), .int wd, .ref qN, .ref qO, .ref qS, .ref qC, .ref qP, .ref qG, .ref qB, .ref qF, .ref qX]))]) (wr := [(qD, .inl (cI, 4096, .inl (aN D))), (qT, .inl (cZ, 64, .inl (aB T))), (qN, .inl (cI, 24, .inl (aN (fN nms))))]) (w1 := fun u : Bool => [(g0, .inr (5, [.int (nI 0), .ref qD, .ref qT, .int (nI U), .int (pI le wl), .int wd, .ref qN, .ref qO, .ref qS, .ref qC, .ref qP, .ref qG, .ref qB, .ref qF, .ref qX]))]) hP hD hS hA [0] [1, 2, 3] rfl rfl (by decide) (by decide) (va_runV (As := [.int (nI ci)]) (rest := []) ⟨hx, hb, hml, hown, hts⟩ (kX5_noControl_ok l dd cI cZ cR cJ g0 th U le wl wd qD qT qN qO qS qC qP qG qB qF qX ci s.heap.size (by omega)) (cwV 1 hts gX5_erase_X5_noControl rfl rfl rfl (by decide +kernel) ⟨Nat.le_of_ble_eq_true rfl, Nat.le_of_ble_eq_true rfl⟩) (pv_m hK hP hD 0 rfl (ci := 5) rfl [0] (by decide) rfl rfl) rfl rfl hl.1 rfl (lv_room (Nat.le_of_ble_eq_true rfl)) dX5_erase_2 ⟨Nat.zero_le _, Nat.zero_le _⟩) (fun r_2 u9 H locs hw hP hD hS => ?_)
  obtain ⟨b_1, rfl⟩ : ∃ z, z = u9 := ⟨_, rfl⟩
  obtain ⟨hr9, hw_3⟩ := hw
  try dsimp only at hr9 hw_3
  subst hr9
  have hP : va_P dd vwCl [(qD, .inl (cI, 4096, .inl (aN D))), (qT, .inl (cZ, 64, .inl (aB T))), (qN, .inl (cI, 24, .inl (aN (fN nms)))), (g0, .inr (5, [.int (nI 0), .ref qD, .ref qT, .int (nI U), .int (pI le wl), .int wd, .ref qN, .ref qO, .ref qS, .ref qC, .ref qP, .ref qG, .ref qB, .ref qF, .ref qX]))] H := hP
  have hD : va_D A [(qD, .inl (cI, 4096, .inl (aN D))), (qT, .inl (cZ, 64, .inl (aB T))), (qN, .inl (cI, 24, .inl (aN (fN nms)))), (g0, .inr (5, [.int (nI 0), .ref qD, .ref qT, .int (nI U), .int (pI le wl), .int wd, .ref qN, .ref qO, .ref qS, .ref qC, .ref qP, .ref qG, .ref qB, .ref qF, .ref qX]))] := hD
  subst hw_3
  refine br_if_eq (tgt := 10) hx hb dX5_erase_5 (by decide) (fun c_5 => ?_) (fun c_5 => absurd c_5 (by decide))
  refine lv_aload_n hx hb dX5_erase_10 rfl (lv_at hl 0 rfl) ?_
  refine lv_iload_n hx hb dX5_erase_11 rfl (lv_at hl 1 rfl) ?_
  refine lv_iconst (v := nI 1) hx hb dX5_erase_12 (by decide) ?_
  refine cr_i (va_runV (As := [.int (nI ci), .int (nI 1)]) (rest := []) ⟨hx, hb, hml, hown, hts⟩ (kX5_many l dd cI cZ cR cJ g0 0 U le wl wd qD qT qN qO qS qC qP qG qB qF qX D nms ci true (by omega) hDb hnb (by omega)) (cwV 2 hts gX5_erase_X5_many rfl rfl rfl (by decide +kernel) ⟨Nat.le_of_ble_eq_true rfl, Nat.le_of_ble_eq_true rfl⟩) (pv_c hK hP 3 rfl (ci := 5) rfl [3, 0, 2] rfl) rfl rfl hl.1 rfl (lv_room (Nat.le_of_ble_eq_true rfl)) dX5_erase_13 ⟨Nat.zero_le _, Nat.zero_le _⟩) ?_
  refine lv_topi (fun x_4 ex_4 => ?_)
  rcases manT (cnt (ftB D U (nms ci)) 32) (anyB (hrB D U (nms ci)) 32) hr_cnt with ⟨ho, ef⟩ | ⟨ho, hn0, ef⟩ | ⟨ho, hn0, ef⟩
  · have ex_4 := ex_4.trans ef
    subst ex_4
    refine lv_istore_n (lv' := [(2, .int (-3 : Int32)), (0, .ref g0), (1, .int (nI ci))]) hx hb dX5_erase_16 rfl hl (by decide) rfl (fun ls hl => ?_)
    refine lv_iconst (v := nI 0) hx hb dX5_erase_17 (by decide) ?_
    refine lv_istore_n (lv' := [(3, .int (nI 0)), (2, .int (-3 : Int32)), (0, .ref g0), (1, .int (nI ci))]) hx hb dX5_erase_18 rfl hl (by decide) rfl (fun ls hl => ?_)
    refine lv_iload_n hx hb dX5_erase_19 rfl (lv_at hl 0 rfl) ?_
    refine lv_bipush (v := nI 32) hx hb dX5_erase_20 (by decide) ?_
    refine nr_ge (tgt := 129) hx hb (by omega) (by omega) dX5_erase_22 (by decide) (fun c_22 => absurd c_22 (by omega)) (fun c_22 => ?_)
    refine lv_iload_n hx hb dX5_erase_25 rfl (lv_at hl 1 rfl) ?_
    refine lv_if_le (tgt := 129) hx hb dX5_erase_26 (by decide) (fun c_26 => ?_) (fun c_26 => absurd c_26 (by decide))
    refine lv_iload_n hx hb dX5_erase_129 rfl (lv_at hl 1 rfl) ?_
    have hP9 := hP.sub (ws' := [(g0, .inr (5, [.int (nI 0), .ref qD, .ref qT, .int (nI U), .int (pI le wl), .int wd, .ref qN, .ref qO, .ref qS, .ref qC, .ref qP, .ref qG, .ref qB, .ref qF, .ref qX])), (qD, .inl (cI, 4096, .inl (aN D))), (qT, .inl (cZ, 64, .inl (aB T))), (qN, .inl (cI, 24, .inl (aN (fN nms))))]) [3, 0, 1, 2] rfl
    have hD9 := hD.sub (ws' := [(g0, .inr (5, [.int (nI 0), .ref qD, .ref qT, .int (nI U), .int (pI le wl), .int wd, .ref qN, .ref qO, .ref qS, .ref qC, .ref qP, .ref qG, .ref qB, .ref qF, .ref qX])), (qD, .inl (cI, 4096, .inl (aN D))), (qT, .inl (cZ, 64, .inl (aB T))), (qN, .inl (cI, 24, .inl (aN (fN nms))))]) [3, 0, 1, 2] (by decide) rfl
    exact W.iret (v := (-3 : Int32)) hx hb hr (fun t ht hW => ⟨⟨(-3 : Int32), (D, T, wl, wd), rfl, by simp only [mErase]; rw [if_pos ho], by rw [ht]; exact hP9, hD9⟩, hS.F ht⟩) hS.2.2 dX5_erase_130
  · have ex_4 := ex_4.trans ef
    subst ex_4
    refine lv_istore_n (lv' := [(2, .int (-1 : Int32)), (0, .ref g0), (1, .int (nI ci))]) hx hb dX5_erase_16 rfl hl (by decide) rfl (fun ls hl => ?_)
    refine lv_iconst (v := nI 0) hx hb dX5_erase_17 (by decide) ?_
    refine lv_istore_n (lv' := [(3, .int (nI 0)), (2, .int (-1 : Int32)), (0, .ref g0), (1, .int (nI ci))]) hx hb dX5_erase_18 rfl hl (by decide) rfl (fun ls hl => ?_)
    refine lv_iload_n hx hb dX5_erase_19 rfl (lv_at hl 0 rfl) ?_
    refine lv_bipush (v := nI 32) hx hb dX5_erase_20 (by decide) ?_
    refine nr_ge (tgt := 129) hx hb (by omega) (by omega) dX5_erase_22 (by decide) (fun c_22 => absurd c_22 (by omega)) (fun c_22 => ?_)
    refine lv_iload_n hx hb dX5_erase_25 rfl (lv_at hl 1 rfl) ?_
    refine lv_if_le (tgt := 129) hx hb dX5_erase_26 (by decide) (fun c_26 => ?_) (fun c_26 => absurd c_26 (by decide))
    refine lv_iload_n hx hb dX5_erase_129 rfl (lv_at hl 1 rfl) ?_
    have hP9 := hP.sub (ws' := [(g0, .inr (5, [.int (nI 0), .ref qD, .ref qT, .int (nI U), .int (pI le wl), .int wd, .ref qN, .ref qO, .ref qS, .ref qC, .ref qP, .ref qG, .ref qB, .ref qF, .ref qX])), (qD, .inl (cI, 4096, .inl (aN D))), (qT, .inl (cZ, 64, .inl (aB T))), (qN, .inl (cI, 24, .inl (aN (fN nms))))]) [3, 0, 1, 2] rfl
    have hD9 := hD.sub (ws' := [(g0, .inr (5, [.int (nI 0), .ref qD, .ref qT, .int (nI U), .int (pI le wl), .int wd, .ref qN, .ref qO, .ref qS, .ref qC, .ref qP, .ref qG, .ref qB, .ref qF, .ref qX])), (qD, .inl (cI, 4096, .inl (aN D))), (qT, .inl (cZ, 64, .inl (aB T))), (qN, .inl (cI, 24, .inl (aN (fN nms))))]) [3, 0, 1, 2] (by decide) rfl
    exact W.iret (v := (-1 : Int32)) hx hb hr (fun t ht hW => ⟨⟨(-1 : Int32), (D, T, wl, wd), rfl, by simp only [mErase]; rw [if_neg (by rw [ho]; decide), mEr_none 32 0 0 (fun j h1 h2 => cnt_0 32 hn0 j (by omega))]; rfl, by rw [ht]; exact hP9, hD9⟩, hS.F ht⟩) hS.2.2 dX5_erase_130
  · have ex_4 := ex_4.trans ef
    subst ex_4
    refine lv_istore_n (lv' := [(2, .int (nI (cnt (ftB D U (nms ci)) 32))), (0, .ref g0), (1, .int (nI ci))]) hx hb dX5_erase_16 rfl hl (by decide) rfl (fun ls hl => ?_)
    refine lv_iconst (v := nI 0) hx hb dX5_erase_17 (by decide) ?_
    refine lv_istore_n (lv' := [(3, .int (nI 0)), (2, .int (nI (cnt (ftB D U (nms ci)) 32))), (0, .ref g0), (1, .int (nI ci))]) hx hb dX5_erase_18 rfl hl (by decide) rfl (fun ls hl => ?_)
    have loop_5 : ∀ (n k : Nat), k ≤ 32 → 32 + 1 ≤ k + n → ∀ (Dk : Nat → Nat), ∀ (Tk : Nat → Bool), ∀ (wlk : Nat), ∀ (wdk : Int32), (∀ j, Dk j < 256) → (wlk ≤ 1000) → (∀ b, b < 8 → Tk b = true) → (∀ j, k ≤ j → j < 32 → ftB Dk U (nms ci) j = ftB D U (nms ci) j) → (mEr le U (nms ci) 32 0 0 D T wl wd = mEr le U (nms ci) (32 - k) k (cnt (ftB D U (nms ci)) k) Dk Tk wlk wdk) → ∀ (H : Heap) (locs : List Loc), va_P dd vwCl [(qD, .inl (cI, 4096, .inl (aN Dk))), (qT, .inl (cZ, 64, .inl (aB Tk))), (qN, .inl (cI, 24, .inl (aN (fN nms)))), (g0, .inr (5, [.int (nI 0), .ref qD, .ref qT, .int (nI U), .int (pI le wlk), .int wdk, .ref qN, .ref qO, .ref qS, .ref qC, .ref qP, .ref qG, .ref qB, .ref qF, .ref qX]))] H → va_D A [(qD, .inl (cI, 4096, .inl (aN Dk))), (qT, .inl (cZ, 64, .inl (aB Tk))), (qN, .inl (cI, 24, .inl (aN (fN nms)))), (g0, .inr (5, [.int (nI 0), .ref qD, .ref qT, .int (nI U), .int (pI le wlk), .int wdk, .ref qN, .ref qO, .ref qS, .ref qC, .ref qP, .ref qG, .ref qB, .ref qF, .ref qX]))] → va_S A s.heap H locs → ∀ ls : Array Slot, lv_has ls 6 [(3, .int (nI k)), (2, .int (nI (cnt (ftB D U (nms ci)) 32))), (0, .ref g0), (1, .int (nI ci))] → W p l e (({ frames := 2, cells := 0, slots := 0, locals := 50 } : Room)) s m ([.ref g0, .int (nI ci)] : List Value).toArray below meth c H locs 0 0 (MQ below (va_Qi (fun (r : Int32) (u : (Nat → Nat) × (Nat → Bool) × Nat × Int32) => (r, u.1, u.2.1, u.2.2.1, u.2.2.2) = mErase le D T wl wd U (nms ci)) (fun u t => qa dd A [(g0, .inr (5, [.int (nI 0), .ref qD, .ref qT, .int (nI U), .int (pI le u.2.2.1), .int u.2.2.2, .ref qN, .ref qO, .ref qS, .ref qC, .ref qP, .ref qG, .ref qB, .ref qF, .ref qX])), (qD, .inl (cI, 4096, .inl (aN u.1))), (qT, .inl (cZ, 64, .inl (aB u.2.1))), (qN, .inl (cI, 24, .inl (aN (fN nms))))] t) A) ([.ref g0, .int (nI ci)] : List Value).toArray s 0 0 A) (F0 m 19 ls []) := by
      intro n
      induction n with
      | zero => intro k h1 h2; exact absurd h2 (by omega)
      | succ n ih =>
        intro k hk_k hn_k Dk Tk wlk wdk hDk hwk hTk hfit hf H locs hP hD hS ls hl
        have ih_6 := ih
        have hc32 := cnt_le (ftB D U (nms ci)) 32
        refine lv_iload_n hx hb dX5_erase_19 rfl (lv_at hl 0 rfl) ?_
        refine lv_bipush (v := nI 32) hx hb dX5_erase_20 (by decide) ?_
        refine nr_ge (tgt := 129) hx hb (by omega) (by omega) dX5_erase_22 (by decide) (fun c_22 => ?_) (fun c_22 => ?_)
        · have ek_k : k = 32 := by omega
          subst ek_k
          refine lv_iload_n hx hb dX5_erase_129 rfl (lv_at hl 1 rfl) ?_
          have hP9 := hP.sub (ws' := [(g0, .inr (5, [.int (nI 0), .ref qD, .ref qT, .int (nI U), .int (pI le wlk), .int wdk, .ref qN, .ref qO, .ref qS, .ref qC, .ref qP, .ref qG, .ref qB, .ref qF, .ref qX])), (qD, .inl (cI, 4096, .inl (aN Dk))), (qT, .inl (cZ, 64, .inl (aB Tk))), (qN, .inl (cI, 24, .inl (aN (fN nms))))]) [3, 0, 1, 2] rfl
          have hD9 := hD.sub (ws' := [(g0, .inr (5, [.int (nI 0), .ref qD, .ref qT, .int (nI U), .int (pI le wlk), .int wdk, .ref qN, .ref qO, .ref qS, .ref qC, .ref qP, .ref qG, .ref qB, .ref qF, .ref qX])), (qD, .inl (cI, 4096, .inl (aN Dk))), (qT, .inl (cZ, 64, .inl (aB Tk))), (qN, .inl (cI, 24, .inl (aN (fN nms))))]) [3, 0, 1, 2] (by decide) rfl
          exact W.iret (v := nI (cnt (ftB D U (nms ci)) 32)) hx hb hr (fun t ht hW => ⟨⟨nI (cnt (ftB D U (nms ci)) 32), (Dk, Tk, wlk, wdk), rfl, by simp only [mErase]; rw [if_neg (by rw [ho]; decide), hf]; simp [mEr, hmI, hn0], by rw [ht]; exact hP9, hD9⟩, hS.F ht⟩) hS.2.2 dX5_erase_130
        · refine lv_iload_n hx hb dX5_erase_25 rfl (lv_at hl 1 rfl) ?_
          refine nr_if_le (tgt := 129) hx hb (by omega) dX5_erase_26 (by decide) (fun c_26 => absurd c_26 (by omega)) (fun c_26 => ?_)
          refine lv_aload_n hx hb dX5_erase_29 rfl (lv_at hl 2 rfl) ?_
          refine lv_iload_n hx hb dX5_erase_30 rfl (lv_at hl 3 rfl) ?_
          refine lv_iload_n hx hb dX5_erase_31 rfl (lv_at hl 0 rfl) ?_
          refine cr_i (va_runV (As := [.int (nI ci), .int (nI k)]) (rest := []) ⟨hx, hb, hml, hown, hts⟩ (kX5_fits l dd cI cZ cR cJ g0 0 U le wlk wdk qD qT qN qO qS qC qP qG qB qF qX Dk nms ci k (by omega) (by omega) hDk hnb (by omega)) (cwV 2 hts gX5_erase_X5_fits rfl rfl rfl (by decide +kernel) ⟨Nat.le_of_ble_eq_true rfl, Nat.le_of_ble_eq_true rfl⟩) (pv_c hK hP 3 rfl (ci := 5) rfl [3, 0, 2] rfl) rfl rfl hl.1 rfl (lv_room (Nat.le_of_ble_eq_true rfl)) dX5_erase_32 ⟨Nat.zero_le _, Nat.zero_le _⟩) ?_
          refine br_if_eq (tgt := 123) hx hb dX5_erase_35 (by decide) (fun c_35 => ?_) (fun c_35 => ?_)
          · refine lv_iinc (v := nI (k + 1)) (lv' := [(3, .int (nI (k + 1))), (2, .int (nI (cnt (ftB D U (nms ci)) 32))), (0, .ref g0), (1, .int (nI ci))]) hx hb dX5_erase_123 hl (k := 0) rfl (nr_inc _ _ (by omega)) (by decide) rfl (fun ls hl => ?_)
            refine lv_goto (tgt := 19) hx hb dX5_erase_126 (by decide) ?_
            exact ih_6 (k + 1) (by omega) (by omega) Dk Tk wlk wdk hDk hwk hTk (fun j h1 h2 => hfit j (by omega) h2) (by rw [hf, mEr_at (by omega), cnt_n ((hfit k (by omega) (by omega)).symm.trans c_35)]; simp [c_35]) _ _ hP hD hS ls (lv_sub hl [0, 1, 2, 3] rfl)
          · refine lv_bipush (v := nI 9) hx hb dX5_erase_38 (by decide) ?_
            refine lv_istore (lv' := [(4, .int (nI 9)), (3, .int (nI k)), (2, .int (nI (cnt (ftB D U (nms ci)) 32))), (0, .ref g0), (1, .int (nI ci))]) hx hb dX5_erase_40 hl (by decide) rfl (fun ls hl => ?_)
            have loop_7 : ∀ (n k2 : Nat), k2 ≤ 16 → 16 + 1 ≤ k2 + n → (9 ≤ k2) → ∀ (H : Heap) (locs : List Loc), va_P dd vwCl [(qD, .inl (cI, 4096, .inl (aN Dk))), (qT, .inl (cZ, 64, .inl (aB (gbB Dk k Tk (k2 - 9))))), (qN, .inl (cI, 24, .inl (aN (fN nms)))), (g0, .inr (5, [.int (nI 0), .ref qD, .ref qT, .int (nI U), .int (pI le wlk), .int wdk, .ref qN, .ref qO, .ref qS, .ref qC, .ref qP, .ref qG, .ref qB, .ref qF, .ref qX]))] H → va_D A [(qD, .inl (cI, 4096, .inl (aN Dk))), (qT, .inl (cZ, 64, .inl (aB (gbB Dk k Tk (k2 - 9))))), (qN, .inl (cI, 24, .inl (aN (fN nms)))), (g0, .inr (5, [.int (nI 0), .ref qD, .ref qT, .int (nI U), .int (pI le wlk), .int wdk, .ref qN, .ref qO, .ref qS, .ref qC, .ref qP, .ref qG, .ref qB, .ref qF, .ref qX]))] → va_S A s.heap H locs → ∀ ls : Array Slot, lv_has ls 6 [(4, .int (nI k2)), (3, .int (nI k)), (2, .int (nI (cnt (ftB D U (nms ci)) 32))), (0, .ref g0), (1, .int (nI ci))] → W p l e (({ frames := 2, cells := 0, slots := 0, locals := 50 } : Room)) s m ([.ref g0, .int (nI ci)] : List Value).toArray below meth c H locs 0 0 (MQ below (va_Qi (fun (r : Int32) (u : (Nat → Nat) × (Nat → Bool) × Nat × Int32) => (r, u.1, u.2.1, u.2.2.1, u.2.2.2) = mErase le D T wl wd U (nms ci)) (fun u t => qa dd A [(g0, .inr (5, [.int (nI 0), .ref qD, .ref qT, .int (nI U), .int (pI le u.2.2.1), .int u.2.2.2, .ref qN, .ref qO, .ref qS, .ref qC, .ref qP, .ref qG, .ref qB, .ref qF, .ref qX])), (qD, .inl (cI, 4096, .inl (aN u.1))), (qT, .inl (cZ, 64, .inl (aB u.2.1))), (qN, .inl (cI, 24, .inl (aN (fN nms))))] t) A) ([.ref g0, .int (nI ci)] : List Value).toArray s 0 0 A) (F0 m 42 ls []) := by
              intro n
              induction n with
              | zero => intro k2 h1 h2; exact absurd h2 (by omega)
              | succ n ih =>
                intro k2 hk_k2 hn_k2 h9 H locs hP hD hS ls hl
                have ih_8 := ih
                refine lv_iload hx hb dX5_erase_42 (lv_at hl 0 rfl) ?_
                refine lv_bipush (v := nI 16) hx hb dX5_erase_44 (by decide) ?_
                refine nr_ge (tgt := 101) hx hb (by omega) (by omega) dX5_erase_46 (by decide) (fun c_46 => ?_) (fun c_46 => ?_)
                · have ek_k2 : k2 = 16 := by omega
                  subst ek_k2
                  have hP : va_P dd vwCl [(qD, .inl (cI, 4096, .inl (aN Dk))), (qT, .inl (cZ, 64, .inl (aB (gbB Dk k Tk 7)))), (qN, .inl (cI, 24, .inl (aN (fN nms)))), (g0, .inr (5, [.int (nI 0), .ref qD, .ref qT, .int (nI U), .int (pI le wlk), .int wdk, .ref qN, .ref qO, .ref qS, .ref qC, .ref qP, .ref qG, .ref qB, .ref qF, .ref qX]))] H := hP
                  have hD : va_D A [(qD, .inl (cI, 4096, .inl (aN Dk))), (qT, .inl (cZ, 64, .inl (aB (gbB Dk k Tk 7)))), (qN, .inl (cI, 24, .inl (aN (fN nms)))), (g0, .inr (5, [.int (nI 0), .ref qD, .ref qT, .int (nI U), .int (pI le wlk), .int wdk, .ref qN, .ref qO, .ref qS, .ref qC, .ref qP, .ref qG, .ref qB, .ref qF, .ref qX]))] := hD
                  refine lv_aload_n hx hb dX5_erase_101 rfl (lv_at hl 3 rfl) ?_
                  refine cm_i (wc := [(g0, .inr (5, [.int (nI 0), .ref qD, .ref qT, .int (nI U), .int (pI le wlk), .int wdk, .ref qN, .ref qO, .ref qS, .ref qC, .ref qP, .ref qG, .ref qB, .ref qF, .ref qX]))]) (wr := [(qD, .inl (cI, 4096, .inl (aN Dk))), (qT, .inl (cZ, 64, .inl (aB (gbB Dk k Tk 7)))), (qN, .inl (cI, 24, .inl (aN (fN nms))))]) (w1 := fun u : Bool => [(g0, .inr (5, [.int (nI 0), .ref qD, .ref qT, .int (nI U), .int (pI le (wlW le wlk)), .int (wdW le wlk wdk), .ref qN, .ref qO, .ref qS, .ref qC, .ref qP, .ref qG, .ref qB, .ref qF, .ref qX]))]) hP hD hS hA [3] [0, 1, 2] rfl rfl (by decide) (by decide) (va_runV (As := []) (rest := []) ⟨hx, hb, hml, hown, hts⟩ (kX5_canWrite l dd cI cZ cR cJ g0 0 U le wlk wdk qD qT qN qO qS qC qP qG qB qF qX H.size hwk) (cwV 0 hts gX5_erase_X5_canWrite rfl rfl rfl (by decide +kernel) ⟨Nat.le_of_ble_eq_true rfl, Nat.le_of_ble_eq_true rfl⟩) (pv_m hK hP hD 3 rfl (ci := 5) rfl [3] (by decide) rfl rfl) rfl rfl hl.1 rfl (lv_room (Nat.le_of_ble_eq_true rfl)) dX5_erase_102 ⟨Nat.zero_le _, Nat.zero_le _⟩) (fun r_10 u9 H locs hw hP hD hS => ?_)
                  obtain ⟨b_9, rfl⟩ : ∃ z, z = u9 := ⟨_, rfl⟩
                  obtain ⟨hr9, hw_11⟩ := hw
                  try dsimp only at hr9 hw_11
                  subst hr9
                  have hP : va_P dd vwCl [(qD, .inl (cI, 4096, .inl (aN Dk))), (qT, .inl (cZ, 64, .inl (aB (gbB Dk k Tk 7)))), (qN, .inl (cI, 24, .inl (aN (fN nms)))), (g0, .inr (5, [.int (nI 0), .ref qD, .ref qT, .int (nI U), .int (pI le (wlW le wlk)), .int (wdW le wlk wdk), .ref qN, .ref qO, .ref qS, .ref qC, .ref qP, .ref qG, .ref qB, .ref qF, .ref qX]))] H := hP
                  have hD : va_D A [(qD, .inl (cI, 4096, .inl (aN Dk))), (qT, .inl (cZ, 64, .inl (aB (gbB Dk k Tk 7)))), (qN, .inl (cI, 24, .inl (aN (fN nms)))), (g0, .inr (5, [.int (nI 0), .ref qD, .ref qT, .int (nI U), .int (pI le (wlW le wlk)), .int (wdW le wlk wdk), .ref qN, .ref qO, .ref qS, .ref qC, .ref qP, .ref qG, .ref qB, .ref qF, .ref qX]))] := hD
                  refine br_if_ne (tgt := 111) hx hb dX5_erase_105 (by decide) (fun c_105 => ?_) (fun c_105 => ?_)
                  · refine lv_aload_n hx hb dX5_erase_111 rfl (lv_at hl 3 rfl) ?_
                    refine va_get (D := dd) (ci := 5) (v := .ref qD) (C := RX5) (T := TX5) (N := 15) hx hb hts hin_X5 hown hK.1 hP 3 rfl rfl 1 (by decide) hf_7 (fun _ h9 => h9) rfl dX5_erase_112 ?_
                    refine lv_bipush (v := nI 16) hx hb dX5_erase_115 (by decide) ?_
                    refine lv_iload_n hx hb dX5_erase_117 rfl (lv_at hl 1 rfl) ?_
                    refine nr_imul (16 * k) (by omega) hx hb dX5_erase_118 ?_
                    refine lv_sipush (v := nI 229) hx hb dX5_erase_119 (by decide) ?_
                    refine nr_iast (f := Dk) (v := 229) hx hb hK hP hD hS 0 rfl (by omega) (by decide) dX5_erase_122 (fun H locs hP hD hS => ?_)
                    have hP : va_P dd vwCl [(qD, .inl (cI, 4096, .inl (aN (va_up Dk (16 * k) 229)))), (qT, .inl (cZ, 64, .inl (aB (gbB Dk k Tk 7)))), (qN, .inl (cI, 24, .inl (aN (fN nms)))), (g0, .inr (5, [.int (nI 0), .ref qD, .ref qT, .int (nI U), .int (pI le (wlW le wlk)), .int (wdW le wlk wdk), .ref qN, .ref qO, .ref qS, .ref qC, .ref qP, .ref qG, .ref qB, .ref qF, .ref qX]))] H := hP
                    have hD : va_D A [(qD, .inl (cI, 4096, .inl (aN (va_up Dk (16 * k) 229)))), (qT, .inl (cZ, 64, .inl (aB (gbB Dk k Tk 7)))), (qN, .inl (cI, 24, .inl (aN (fN nms)))), (g0, .inr (5, [.int (nI 0), .ref qD, .ref qT, .int (nI U), .int (pI le (wlW le wlk)), .int (wdW le wlk wdk), .ref qN, .ref qO, .ref qS, .ref qC, .ref qP, .ref qG, .ref qB, .ref qF, .ref qX]))] := hD
                    have hu_12 : va_up Dk (16 * k) 229 = efD Dk k := ef_twin Dk k
                    rw [hu_12] at hP hD
                    refine lv_iinc (v := nI (k + 1)) (lv' := [(3, .int (nI (k + 1))), (4, .int (nI 16)), (2, .int (nI (cnt (ftB D U (nms ci)) 32))), (0, .ref g0), (1, .int (nI ci))]) hx hb dX5_erase_123 hl (k := 1) rfl (nr_inc _ _ (by omega)) (by decide) rfl (fun ls hl => ?_)
                    refine lv_goto (tgt := 19) hx hb dX5_erase_126 (by decide) ?_
                    exact ih_6 (k + 1) (by omega) (by omega) (efD Dk k) (gbB Dk k Tk 7) (wlW le wlk) (wdW le wlk wdk) (efD_lt hDk) (wlW_le hwk) (gbB_true hTk 7) (fun j h1 h2 => (ft_row (by omega)).trans (hfit j (by omega) h2)) (by rw [hf, mEr_at (by omega), cnt_y ((hfit k (by omega) (by omega)).symm.trans c_35)]; simp [c_35, (hw_11.symm.trans c_105)]) _ _ hP hD hS ls (lv_sub hl [0, 2, 3, 4] rfl)
                  · refine lv_bipush (v := -9) hx hb dX5_erase_108 (by decide) ?_
                    have hP9 := hP.sub (ws' := [(g0, .inr (5, [.int (nI 0), .ref qD, .ref qT, .int (nI U), .int (pI le (wlW le wlk)), .int (wdW le wlk wdk), .ref qN, .ref qO, .ref qS, .ref qC, .ref qP, .ref qG, .ref qB, .ref qF, .ref qX])), (qD, .inl (cI, 4096, .inl (aN Dk))), (qT, .inl (cZ, 64, .inl (aB (gbB Dk k Tk 7)))), (qN, .inl (cI, 24, .inl (aN (fN nms))))]) [3, 0, 1, 2] rfl
                    have hD9 := hD.sub (ws' := [(g0, .inr (5, [.int (nI 0), .ref qD, .ref qT, .int (nI U), .int (pI le (wlW le wlk)), .int (wdW le wlk wdk), .ref qN, .ref qO, .ref qS, .ref qC, .ref qP, .ref qG, .ref qB, .ref qF, .ref qX])), (qD, .inl (cI, 4096, .inl (aN Dk))), (qT, .inl (cZ, 64, .inl (aB (gbB Dk k Tk 7)))), (qN, .inl (cI, 24, .inl (aN (fN nms))))]) [3, 0, 1, 2] (by decide) rfl
                    exact W.iret (v := (-9 : Int32)) hx hb hr (fun t ht hW => ⟨⟨(-9 : Int32), (Dk, gbB Dk k Tk 7, wlW le wlk, wdW le wlk wdk), rfl, by simp only [mErase]; rw [if_neg (by rw [ho]; decide), hf, mEr_at (by omega)]; simp [c_35, (hw_11.symm.trans c_105)], by rw [ht]; exact hP9, hD9⟩, hS.F ht⟩) hS.2.2 dX5_erase_110
                · refine lv_aload_n hx hb dX5_erase_49 rfl (lv_at hl 3 rfl) ?_
                  refine va_get (D := dd) (ci := 5) (v := .ref qD) (C := RX5) (T := TX5) (N := 15) hx hb hts hin_X5 hown hK.1 hP 3 rfl rfl 1 (by decide) hf_7 (fun _ h9 => h9) rfl dX5_erase_50 ?_
                  refine lv_bipush (v := nI 16) hx hb dX5_erase_53 (by decide) ?_
                  refine lv_iload_n hx hb dX5_erase_55 rfl (lv_at hl 1 rfl) ?_
                  refine nr_imul (16 * k) (by omega) hx hb dX5_erase_56 ?_
                  refine lv_iload hx hb dX5_erase_57 (lv_at hl 0 rfl) ?_
                  refine nr_iadd (16 * k + k2) (by omega) hx hb dX5_erase_59 ?_
                  refine nr_iald (f := Dk) hx hb hK hP 0 rfl (by omega) (by decide) dX5_erase_60 ?_
                  have hv_13 := hDk (16 * k + k2)
                  refine lv_bipush (v := nI 64) hx hb dX5_erase_61 (by decide) ?_
                  refine nr_irem (((Dk (16 * k + k2)) % 64)) (by omega) hx hb (by omega) (by omega) (by omega) dX5_erase_63 ?_
                  refine lv_istore (lv' := [(5, .int (nI (((Dk (16 * k + k2)) % 64)))), (4, .int (nI k2)), (3, .int (nI k)), (2, .int (nI (cnt (ftB D U (nms ci)) 32))), (0, .ref g0), (1, .int (nI ci))]) hx hb dX5_erase_64 hl (by decide) rfl (fun ls hl => ?_)
                  refine lv_aload_n hx hb dX5_erase_66 rfl (lv_at hl 4 rfl) ?_
                  refine va_get (D := dd) (ci := 5) (v := .ref qT) (C := RX5) (T := TX5) (N := 15) hx hb hts hin_X5 hown hK.1 hP 3 rfl rfl 2 (by decide) hf_13 (fun _ h9 => h9) rfl dX5_erase_67 ?_
                  refine lv_iload hx hb dX5_erase_70 (lv_at hl 0 rfl) ?_
                  refine lv_aload_n hx hb dX5_erase_72 rfl (lv_at hl 4 rfl) ?_
                  refine va_get (D := dd) (ci := 5) (v := .ref qT) (C := RX5) (T := TX5) (N := 15) hx hb hts hin_X5 hown hK.1 hP 3 rfl rfl 2 (by decide) hf_13 (fun _ h9 => h9) rfl dX5_erase_73 ?_
                  refine lv_iload hx hb dX5_erase_76 (lv_at hl 0 rfl) ?_
                  refine nr_zald (f := gbB Dk k Tk (k2 - 9)) hx hb hK hP 1 rfl (by omega) (by decide) dX5_erase_78 ?_
                  refine br_if_eq (tgt := 93) hx hb dX5_erase_79 (by decide) (fun c_79 => ?_) (fun c_79 => ?_)
                  · refine lv_iconst (v := nI 0) hx hb dX5_erase_93 (by decide) ?_
                    refine nr_zast (f := gbB Dk k Tk (k2 - 9)) false (by rfl) hx hb hK hP hD hS 1 rfl (by omega) (by decide) dX5_erase_94 (fun H locs hP hD hS => ?_)
                    have hP : va_P dd vwCl [(qD, .inl (cI, 4096, .inl (aN Dk))), (qT, .inl (cZ, 64, .inl (aB (va_up (gbB Dk k Tk (k2 - 9)) ((Dk (16 * k + k2)) % 64) false)))), (qN, .inl (cI, 24, .inl (aN (fN nms)))), (g0, .inr (5, [.int (nI 0), .ref qD, .ref qT, .int (nI U), .int (pI le wlk), .int wdk, .ref qN, .ref qO, .ref qS, .ref qC, .ref qP, .ref qG, .ref qB, .ref qF, .ref qX]))] H := hP
                    have hD : va_D A [(qD, .inl (cI, 4096, .inl (aN Dk))), (qT, .inl (cZ, 64, .inl (aB (va_up (gbB Dk k Tk (k2 - 9)) ((Dk (16 * k + k2)) % 64) false)))), (qN, .inl (cI, 24, .inl (aN (fN nms)))), (g0, .inr (5, [.int (nI 0), .ref qD, .ref qT, .int (nI U), .int (pI le wlk), .int wdk, .ref qN, .ref qO, .ref qS, .ref qC, .ref qP, .ref qG, .ref qB, .ref qF, .ref qX]))] := hD
                    have hu_14 : va_up (gbB Dk k Tk (k2 - 9)) ((Dk (16 * k + k2)) % 64) false = gbB Dk k Tk (k2 + 1 - 9) := by rw [show k2 + 1 - 9 = (k2 - 9) + 1 by omega]; exact gb_s (by rw [show 16 * k + (k2 - 9) + 9 = 16 * k + k2 by omega]) (gb_no hTk c_79)
                    rw [hu_14] at hP hD
                    refine lv_iinc (v := nI (k2 + 1)) (lv' := [(4, .int (nI (k2 + 1))), (5, .int (nI (((Dk (16 * k + k2)) % 64)))), (3, .int (nI k)), (2, .int (nI (cnt (ftB D U (nms ci)) 32))), (0, .ref g0), (1, .int (nI ci))]) hx hb dX5_erase_95 hl (k := 1) rfl (nr_inc _ _ (by omega)) (by decide) rfl (fun ls hl => ?_)
                    refine lv_goto (tgt := 42) hx hb dX5_erase_98 (by decide) ?_
                    exact ih_8 (k2 + 1) (by omega) (by omega) (by omega) _ _ hP hD hS ls (lv_sub hl [0, 2, 3, 4, 5] rfl)
                  · refine lv_iload hx hb dX5_erase_82 (lv_at hl 0 rfl) ?_
                    refine lv_bipush (v := nI 8) hx hb dX5_erase_84 (by decide) ?_
                    refine nr_ge (tgt := 93) hx hb (by omega) (by omega) dX5_erase_86 (by decide) (fun c_86 => ?_) (fun c_86 => ?_)
                    · refine lv_iconst (v := nI 0) hx hb dX5_erase_93 (by decide) ?_
                      refine nr_zast (f := gbB Dk k Tk (k2 - 9)) false (by rfl) hx hb hK hP hD hS 1 rfl (by omega) (by decide) dX5_erase_94 (fun H locs hP hD hS => ?_)
                      have hP : va_P dd vwCl [(qD, .inl (cI, 4096, .inl (aN Dk))), (qT, .inl (cZ, 64, .inl (aB (va_up (gbB Dk k Tk (k2 - 9)) ((Dk (16 * k + k2)) % 64) false)))), (qN, .inl (cI, 24, .inl (aN (fN nms)))), (g0, .inr (5, [.int (nI 0), .ref qD, .ref qT, .int (nI U), .int (pI le wlk), .int wdk, .ref qN, .ref qO, .ref qS, .ref qC, .ref qP, .ref qG, .ref qB, .ref qF, .ref qX]))] H := hP
                      have hD : va_D A [(qD, .inl (cI, 4096, .inl (aN Dk))), (qT, .inl (cZ, 64, .inl (aB (va_up (gbB Dk k Tk (k2 - 9)) ((Dk (16 * k + k2)) % 64) false)))), (qN, .inl (cI, 24, .inl (aN (fN nms)))), (g0, .inr (5, [.int (nI 0), .ref qD, .ref qT, .int (nI U), .int (pI le wlk), .int wdk, .ref qN, .ref qO, .ref qS, .ref qC, .ref qP, .ref qG, .ref qB, .ref qF, .ref qX]))] := hD
                      have hu_15 : va_up (gbB Dk k Tk (k2 - 9)) ((Dk (16 * k + k2)) % 64) false = gbB Dk k Tk (k2 + 1 - 9) := by rw [show k2 + 1 - 9 = (k2 - 9) + 1 by omega]; exact gb_s (by rw [show 16 * k + (k2 - 9) + 9 = 16 * k + k2 by omega]) (by simp; omega)
                      rw [hu_15] at hP hD
                      refine lv_iinc (v := nI (k2 + 1)) (lv' := [(4, .int (nI (k2 + 1))), (5, .int (nI (((Dk (16 * k + k2)) % 64)))), (3, .int (nI k)), (2, .int (nI (cnt (ftB D U (nms ci)) 32))), (0, .ref g0), (1, .int (nI ci))]) hx hb dX5_erase_95 hl (k := 1) rfl (nr_inc _ _ (by omega)) (by decide) rfl (fun ls hl => ?_)
                      refine lv_goto (tgt := 42) hx hb dX5_erase_98 (by decide) ?_
                      exact ih_8 (k2 + 1) (by omega) (by omega) (by omega) _ _ hP hD hS ls (lv_sub hl [0, 2, 3, 4, 5] rfl)
                    · refine lv_iconst (v := nI 1) hx hb dX5_erase_89 (by decide) ?_
                      refine lv_goto (tgt := 94) hx hb dX5_erase_90 (by decide) ?_
                      refine nr_zast (f := gbB Dk k Tk (k2 - 9)) true (by rfl) hx hb hK hP hD hS 1 rfl (by omega) (by decide) dX5_erase_94 (fun H locs hP hD hS => ?_)
                      have hP : va_P dd vwCl [(qD, .inl (cI, 4096, .inl (aN Dk))), (qT, .inl (cZ, 64, .inl (aB (va_up (gbB Dk k Tk (k2 - 9)) ((Dk (16 * k + k2)) % 64) true)))), (qN, .inl (cI, 24, .inl (aN (fN nms)))), (g0, .inr (5, [.int (nI 0), .ref qD, .ref qT, .int (nI U), .int (pI le wlk), .int wdk, .ref qN, .ref qO, .ref qS, .ref qC, .ref qP, .ref qG, .ref qB, .ref qF, .ref qX]))] H := hP
                      have hD : va_D A [(qD, .inl (cI, 4096, .inl (aN Dk))), (qT, .inl (cZ, 64, .inl (aB (va_up (gbB Dk k Tk (k2 - 9)) ((Dk (16 * k + k2)) % 64) true)))), (qN, .inl (cI, 24, .inl (aN (fN nms)))), (g0, .inr (5, [.int (nI 0), .ref qD, .ref qT, .int (nI U), .int (pI le wlk), .int wdk, .ref qN, .ref qO, .ref qS, .ref qC, .ref qP, .ref qG, .ref qB, .ref qF, .ref qX]))] := hD
                      have hu_16 : va_up (gbB Dk k Tk (k2 - 9)) ((Dk (16 * k + k2)) % 64) true = gbB Dk k Tk (k2 + 1 - 9) := by rw [show k2 + 1 - 9 = (k2 - 9) + 1 by omega]; exact gb_s (by rw [show 16 * k + (k2 - 9) + 9 = 16 * k + k2 by omega]) (by simp; omega)
                      rw [hu_16] at hP hD
                      refine lv_iinc (v := nI (k2 + 1)) (lv' := [(4, .int (nI (k2 + 1))), (5, .int (nI (((Dk (16 * k + k2)) % 64)))), (3, .int (nI k)), (2, .int (nI (cnt (ftB D U (nms ci)) 32))), (0, .ref g0), (1, .int (nI ci))]) hx hb dX5_erase_95 hl (k := 1) rfl (nr_inc _ _ (by omega)) (by decide) rfl (fun ls hl => ?_)
                      refine lv_goto (tgt := 42) hx hb dX5_erase_98 (by decide) ?_
                      exact ih_8 (k2 + 1) (by omega) (by omega) (by omega) _ _ hP hD hS ls (lv_sub hl [0, 2, 3, 4, 5] rfl)
            exact loop_7 (16 + 1) 9 (by omega) (by omega) (by omega) _ _ hP hD hS ls (lv_sub hl [0, 1, 2, 3, 4] rfl)
    exact loop_5 (32 + 1) 0 (by omega) (by omega) D T wl wd hDb hwl hT8 (fun _ _ _ => rfl) rfl _ _ hP hD hS ls (lv_sub hl [0, 1, 2, 3] rfl)

set_option maxHeartbeats 4000000 in
set_option maxRecDepth 100000 in
theorem kX5_rename (l : Launch) (dd : va_G) (cI cZ cR cJ : ClassId) (g0 : Nat) (th : Nat) (U : Nat) (le : Bool) (wl : Nat) (wd : Int32) (qD : Nat) (qT : Nat) (qN : Nat) (qO : Nat) (qS : Nat) (qC : Nat) (qP : Nat) (qG : Nat) (qB : Nat) (qF : Nat) (qX : Nat) (D : Nat → Nat) (nms : Nat → Nat → Nat) (xs : Nat → Bool) (ci : Nat) (co : Nat) (sz : Nat) (hci : ci < 4) (hco : co < 4) (hDb : ∀ j, D j < 256) (hwl : wl ≤ 1000) (hnb : ∀ i j, nms i j < 128) (hUb : U < 16) : Met l yX5_rename wsX5_rename ({ frames := 2, cells := 0, slots := 0, locals := 50 }) (va_Pc [.ref g0, .int (nI ci), .int (nI co)] (qm dd cI cZ cR cJ sz [(g0, .inr (5, [.int (nI th), .ref qD, .ref qT, .int (nI U), .int (pI le wl), .int wd, .ref qN, .ref qO, .ref qS, .ref qC, .ref qP, .ref qG, .ref qB, .ref qF, .ref qX])), (qD, .inl (cI, 4096, .inl (aN D))), (qN, .inl (cI, 24, .inl (aN (fN nms)))), (qX, .inl (cZ, 32, .inl (aB xs)))])) (va_Qi (fun (r : Int32) (u : (Nat → Nat) × Nat × Int32 × (Nat → Bool)) => (r, u.1, u.2.1, u.2.2.1) = mRename le D wl wd U (nms ci) (nms co)) (fun u t => qa dd (va_A [(g0, .inr (5, [.int (nI th), .ref qD, .ref qT, .int (nI U), .int (pI le wl), .int wd, .ref qN, .ref qO, .ref qS, .ref qC, .ref qP, .ref qG, .ref qB, .ref qF, .ref qX])), (qD, .inl (cI, 4096, .inl (aN D))), (qN, .inl (cI, 24, .inl (aN (fN nms)))), (qX, .inl (cZ, 32, .inl (aB xs)))] sz) [(g0, .inr (5, [.int (nI 0), .ref qD, .ref qT, .int (nI U), .int (pI le u.2.1), .int u.2.2.1, .ref qN, .ref qO, .ref qS, .ref qC, .ref qP, .ref qG, .ref qB, .ref qF, .ref qX])), (qD, .inl (cI, 4096, .inl (aN u.1))), (qN, .inl (cI, 24, .inl (aN (fN nms)))), (qX, .inl (cZ, 32, .inl (aB u.2.2.2)))] t) (va_A [(g0, .inr (5, [.int (nI th), .ref qD, .ref qT, .int (nI U), .int (pI le wl), .int wd, .ref qN, .ref qO, .ref qS, .ref qC, .ref qP, .ref qG, .ref qB, .ref qF, .ref qX])), (qD, .inl (cI, 4096, .inl (aN D))), (qN, .inl (cI, 24, .inl (aN (fN nms)))), (qX, .inl (cZ, 32, .inl (aB xs)))] sz)) 0 0 (va_A [(g0, .inr (5, [.int (nI th), .ref qD, .ref qT, .int (nI U), .int (pI le wl), .int wd, .ref qN, .ref qO, .ref qS, .ref qC, .ref qP, .ref qG, .ref qB, .ref qF, .ref qX])), (qD, .inl (cI, 4096, .inl (aN D))), (qN, .inl (cI, 24, .inl (aN (fN nms)))), (qX, .inl (cZ, 32, .inl (aB xs)))] sz) := by
  refine mk_mut (cc := cX5_rename) (maxL := 7) (ret := (some .int)) (Qf := fun A => va_Qi (fun (r : Int32) (u : (Nat → Nat) × Nat × Int32 × (Nat → Bool)) => (r, u.1, u.2.1, u.2.2.1) = mRename le D wl wd U (nms ci) (nms co)) (fun u t => qa dd A [(g0, .inr (5, [.int (nI 0), .ref qD, .ref qT, .int (nI U), .int (pI le u.2.1), .int u.2.2.1, .ref qN, .ref qO, .ref qS, .ref qC, .ref qP, .ref qG, .ref qB, .ref qF, .ref qX])), (qD, .inl (cI, 4096, .inl (aN u.1))), (qN, .inl (cI, 24, .inl (aN (fN nms)))), (qX, .inl (cZ, 32, .inl (aB u.2.2.2)))] t) A) (by decide) rfl (Nat.le_of_ble_eq_true rfl) ?_
  intro p e s m below meth c A hx hb hr hts hown hlocks hml hin hP hD hA hS hK ls hl
  have hown : s.vm.findClass RX5 = some m.cls := hown
  have hl : lv_has ls 7 [(0, .ref g0), (1, .int (nI ci)), (2, .int (nI co))] := hl
  have hf_48 := hts (.fieldLink RX5 48 "RecordSystemModel" "thrown" "I") (by decide +kernel)
  have hin_X5 : ∀ w ∈ wsX50, w ∈ wsX5_rename := by decide +kernel
  have hf_45 := hts (.fieldLink RX5 45 "RecordSystemModel" "those" "[Z") (by decide +kernel)
  have hf_7 := hts (.fieldLink RX5 7 "RecordSystemModel" "disk" "[I") (by decide +kernel)
  have hf_21 := hts (.fieldLink RX5 21 "RecordSystemModel" "names" "[I") (by decide +kernel)
  refine lv_aload_n hx hb dX5_rename_0 rfl (lv_at hl 0 rfl) ?_
  refine lv_iload_n hx hb dX5_rename_1 rfl (lv_at hl 1 rfl) ?_
  refine nr_if_lt (tgt := 19) hx hb (by omega) dX5_rename_2 (by decide) ?_
  refine lv_iload_n hx hb dX5_rename_5 rfl (lv_at hl 1 rfl) ?_
  refine lv_iconst (v := nI 3) hx hb dX5_rename_6 (by decide) ?_
  refine nr_gt (tgt := 19) hx hb (by omega) (by omega) dX5_rename_7 (by decide) (fun c_7 => absurd c_7 (by omega)) (fun c_7 => ?_)
  refine lv_iload_n hx hb dX5_rename_10 rfl (lv_at hl 2 rfl) ?_
  refine nr_if_lt (tgt := 19) hx hb (by omega) dX5_rename_11 (by decide) ?_
  refine lv_iload_n hx hb dX5_rename_14 rfl (lv_at hl 2 rfl) ?_
  refine lv_iconst (v := nI 3) hx hb dX5_rename_15 (by decide) ?_
  refine nr_le (tgt := 23) hx hb (by omega) (by omega) dX5_rename_16 (by decide) (fun c_16 => ?_) (fun c_16 => absurd c_16 (by omega))
  refine lv_iconst (v := nI 0) hx hb dX5_rename_23 (by decide) ?_
  refine va_put (D := dd) (ci := 5) (v := .int (nI 0)) (ty := .int) (C := RX5) (T := TX5) (N := 15) hx hb hts hin_X5 tyX5 tyX5_ok nmX5 hown hK.1 hP hD hS 0 rfl rfl 0 (by decide) hf_48 (fun _ h9 => h9) rfl (by decide +kernel) rfl rfl (Nat.le_of_ble_eq_true rfl) dX5_rename_24 (fun H locs hP hD hS => ?_)
  have hP : va_P dd vwCl [(g0, .inr (5, [.int (nI 0), .ref qD, .ref qT, .int (nI U), .int (pI le wl), .int wd, .ref qN, .ref qO, .ref qS, .ref qC, .ref qP, .ref qG, .ref qB, .ref qF, .ref qX])), (qD, .inl (cI, 4096, .inl (aN D))), (qN, .inl (cI, 24, .inl (aN (fN nms)))), (qX, .inl (cZ, 32, .inl (aB xs)))] H := hP
  have hD : va_D A [(g0, .inr (5, [.int (nI 0), .ref qD, .ref qT, .int (nI U), .int (pI le wl), .int wd, .ref qN, .ref qO, .ref qS, .ref qC, .ref qP, .ref qG, .ref qB, .ref qF, .ref qX])), (qD, .inl (cI, 4096, .inl (aN D))), (qN, .inl (cI, 24, .inl (aN (fN nms)))), (qX, .inl (cZ, 32, .inl (aB xs)))] := hD
  refine lv_aload_n hx hb dX5_rename_27 rfl (lv_at hl 0 rfl) ?_
  refine va_get (D := dd) (ci := 5) (v := .int (nI 0)) (C := RX5) (T := TX5) (N := 15) hx hb hts hin_X5 hown hK.1 hP 0 rfl rfl 0 (by decide) hf_48 (fun _ h9 => h9) rfl dX5_rename_28 ?_
  refine nr_if_le (tgt := 36) hx hb (by omega) dX5_rename_31 (by decide) (fun c_31 => ?_) (fun c_31 => absurd c_31 (by omega))
  refine lv_aload_n hx hb dX5_rename_36 rfl (lv_at hl 0 rfl) ?_
  refine lv_iload_n hx hb dX5_rename_37 rfl (lv_at hl 1 rfl) ?_
  refine lv_iconst (v := nI 1) hx hb dX5_rename_38 (by decide) ?_
  refine cr_i (va_runV (As := [.int (nI ci), .int (nI 1)]) (rest := []) ⟨hx, hb, hml, hown, hts⟩ (kX5_many l dd cI cZ cR cJ g0 0 U le wl wd qD qT qN qO qS qC qP qG qB qF qX D nms ci true (by omega) hDb hnb (by omega)) (cwV 2 hts gX5_rename_X5_many rfl rfl rfl (by decide +kernel) ⟨Nat.le_of_ble_eq_true rfl, Nat.le_of_ble_eq_true rfl⟩) (pv_c hK hP 0 rfl (ci := 5) rfl [0, 1, 2] rfl) rfl rfl hl.1 rfl (lv_room (Nat.le_of_ble_eq_true rfl)) dX5_rename_39 ⟨Nat.zero_le _, Nat.zero_le _⟩) ?_
  refine lv_topi (fun x_1 ex_1 => ?_)
  rcases manT (cnt (ftB D U (nms ci)) 32) (anyB (hrB D U (nms ci)) 32) hr_cnt with ⟨ho, ef⟩ | ⟨ho, hn0, ef⟩ | ⟨ho, hn0, ef⟩
  · have ex_1 := ex_1.trans ef
    subst ex_1
    refine lv_istore_n (lv' := [(3, .int (-3 : Int32)), (0, .ref g0), (1, .int (nI ci)), (2, .int (nI co))]) hx hb dX5_rename_42 rfl hl (by decide) rfl (fun ls hl => ?_)
    refine lv_iconst (v := nI 0) hx hb dX5_rename_43 (by decide) ?_
    refine lv_istore (lv' := [(4, .int (nI 0)), (3, .int (-3 : Int32)), (0, .ref g0), (1, .int (nI ci)), (2, .int (nI co))]) hx hb dX5_rename_44 hl (by decide) rfl (fun ls hl => ?_)
    have loop_2 : ∀ (n k0 : Nat), k0 ≤ 32 → 32 + 1 ≤ k0 + n → ∀ (H : Heap) (locs : List Loc), va_P dd vwCl [(g0, .inr (5, [.int (nI 0), .ref qD, .ref qT, .int (nI U), .int (pI le wl), .int wd, .ref qN, .ref qO, .ref qS, .ref qC, .ref qP, .ref qG, .ref qB, .ref qF, .ref qX])), (qD, .inl (cI, 4096, .inl (aN D))), (qN, .inl (cI, 24, .inl (aN (fN nms)))), (qX, .inl (cZ, 32, .inl (aB (va_cpy (fun j => ftB D U (nms ci) j) xs 0 0 k0))))] H → va_D A [(g0, .inr (5, [.int (nI 0), .ref qD, .ref qT, .int (nI U), .int (pI le wl), .int wd, .ref qN, .ref qO, .ref qS, .ref qC, .ref qP, .ref qG, .ref qB, .ref qF, .ref qX])), (qD, .inl (cI, 4096, .inl (aN D))), (qN, .inl (cI, 24, .inl (aN (fN nms)))), (qX, .inl (cZ, 32, .inl (aB (va_cpy (fun j => ftB D U (nms ci) j) xs 0 0 k0))))] → va_S A s.heap H locs → ∀ ls : Array Slot, lv_has ls 7 [(4, .int (nI k0)), (3, .int (-3 : Int32)), (0, .ref g0), (1, .int (nI ci)), (2, .int (nI co))] → W p l e (({ frames := 2, cells := 0, slots := 0, locals := 50 } : Room)) s m ([.ref g0, .int (nI ci), .int (nI co)] : List Value).toArray below meth c H locs 0 0 (MQ below (va_Qi (fun (r : Int32) (u : (Nat → Nat) × Nat × Int32 × (Nat → Bool)) => (r, u.1, u.2.1, u.2.2.1) = mRename le D wl wd U (nms ci) (nms co)) (fun u t => qa dd A [(g0, .inr (5, [.int (nI 0), .ref qD, .ref qT, .int (nI U), .int (pI le u.2.1), .int u.2.2.1, .ref qN, .ref qO, .ref qS, .ref qC, .ref qP, .ref qG, .ref qB, .ref qF, .ref qX])), (qD, .inl (cI, 4096, .inl (aN u.1))), (qN, .inl (cI, 24, .inl (aN (fN nms)))), (qX, .inl (cZ, 32, .inl (aB u.2.2.2)))] t) A) ([.ref g0, .int (nI ci), .int (nI co)] : List Value).toArray s 0 0 A) (F0 m 46 ls []) := by
      intro n
      induction n with
      | zero => intro k0 h1 h2; exact absurd h2 (by omega)
      | succ n ih =>
        intro k0 hk_k0 hn_k0 H locs hP hD hS ls hl
        have ih_3 := ih
        refine lv_iload hx hb dX5_rename_46 (lv_at hl 0 rfl) ?_
        refine lv_bipush (v := nI 32) hx hb dX5_rename_48 (by decide) ?_
        refine nr_ge (tgt := 73) hx hb (by omega) (by omega) dX5_rename_50 (by decide) (fun c_50 => ?_) (fun c_50 => ?_)
        · have ek_k0 : k0 = 32 := by omega
          subst ek_k0
          refine lv_iconst (v := nI 0) hx hb dX5_rename_73 (by decide) ?_
          refine lv_istore (lv' := [(4, .int (nI 0)), (3, .int (-3 : Int32)), (0, .ref g0), (1, .int (nI ci)), (2, .int (nI co))]) hx hb dX5_rename_74 hl (by decide) rfl (fun ls hl => ?_)
          refine lv_iload hx hb dX5_rename_76 (lv_at hl 0 rfl) ?_
          refine lv_bipush (v := nI 32) hx hb dX5_rename_78 (by decide) ?_
          refine nr_ge (tgt := 187) hx hb (by omega) (by omega) dX5_rename_80 (by decide) (fun c_80 => absurd c_80 (by omega)) (fun c_80 => ?_)
          refine lv_iload_n hx hb dX5_rename_83 rfl (lv_at hl 1 rfl) ?_
          refine lv_if_le (tgt := 187) hx hb dX5_rename_84 (by decide) (fun c_84 => ?_) (fun c_84 => absurd c_84 (by decide))
          refine lv_iload_n hx hb dX5_rename_187 rfl (lv_at hl 1 rfl) ?_
          have hP9 := hP.sub (ws' := [(g0, .inr (5, [.int (nI 0), .ref qD, .ref qT, .int (nI U), .int (pI le wl), .int wd, .ref qN, .ref qO, .ref qS, .ref qC, .ref qP, .ref qG, .ref qB, .ref qF, .ref qX])), (qD, .inl (cI, 4096, .inl (aN D))), (qN, .inl (cI, 24, .inl (aN (fN nms)))), (qX, .inl (cZ, 32, .inl (aB (va_cpy (fun j => ftB D U (nms ci) j) xs 0 0 32))))]) [0, 1, 2, 3] rfl
          have hD9 := hD.sub (ws' := [(g0, .inr (5, [.int (nI 0), .ref qD, .ref qT, .int (nI U), .int (pI le wl), .int wd, .ref qN, .ref qO, .ref qS, .ref qC, .ref qP, .ref qG, .ref qB, .ref qF, .ref qX])), (qD, .inl (cI, 4096, .inl (aN D))), (qN, .inl (cI, 24, .inl (aN (fN nms)))), (qX, .inl (cZ, 32, .inl (aB (va_cpy (fun j => ftB D U (nms ci) j) xs 0 0 32))))]) [0, 1, 2, 3] (by decide) rfl
          exact W.iret (v := (-3 : Int32)) hx hb hr (fun t ht hW => ⟨⟨(-3 : Int32), (D, wl, wd, va_cpy (fun j => ftB D U (nms ci) j) xs 0 0 32), rfl, by simp only [mRename]; rw [if_pos ho], by rw [ht]; exact hP9, hD9⟩, hS.F ht⟩) hS.2.2 dX5_rename_188
        · refine lv_aload_n hx hb dX5_rename_53 rfl (lv_at hl 2 rfl) ?_
          refine va_get (D := dd) (ci := 5) (v := .ref qX) (C := RX5) (T := TX5) (N := 15) hx hb hts hin_X5 hown hK.1 hP 0 rfl rfl 14 (by decide) hf_45 (fun _ h9 => h9) rfl dX5_rename_54 ?_
          refine lv_iload hx hb dX5_rename_57 (lv_at hl 0 rfl) ?_
          refine lv_aload_n hx hb dX5_rename_59 rfl (lv_at hl 2 rfl) ?_
          refine lv_iload_n hx hb dX5_rename_60 rfl (lv_at hl 3 rfl) ?_
          refine lv_iload hx hb dX5_rename_61 (lv_at hl 0 rfl) ?_
          refine cr_i (va_runV (As := [.int (nI ci), .int (nI k0)]) (rest := [.int (nI k0), .ref qX]) ⟨hx, hb, hml, hown, hts⟩ (kX5_fits l dd cI cZ cR cJ g0 0 U le wl wd qD qT qN qO qS qC qP qG qB qF qX D nms ci k0 (by omega) (by omega) hDb hnb (by omega)) (cwV 2 hts gX5_rename_X5_fits rfl rfl rfl (by decide +kernel) ⟨Nat.le_of_ble_eq_true rfl, Nat.le_of_ble_eq_true rfl⟩) (pv_c hK hP 0 rfl (ci := 5) rfl [0, 1, 2] rfl) rfl rfl hl.1 rfl (lv_room (Nat.le_of_ble_eq_true rfl)) dX5_rename_63 ⟨Nat.zero_le _, Nat.zero_le _⟩) ?_
          refine nr_zast (f := va_cpy (fun j => ftB D U (nms ci) j) xs 0 0 k0) (ftB D U (nms ci) k0) (by rfl) hx hb hK hP hD hS 3 rfl (by omega) (by decide) dX5_rename_66 (fun H locs hP hD hS => ?_)
          have hP : va_P dd vwCl [(g0, .inr (5, [.int (nI 0), .ref qD, .ref qT, .int (nI U), .int (pI le wl), .int wd, .ref qN, .ref qO, .ref qS, .ref qC, .ref qP, .ref qG, .ref qB, .ref qF, .ref qX])), (qD, .inl (cI, 4096, .inl (aN D))), (qN, .inl (cI, 24, .inl (aN (fN nms)))), (qX, .inl (cZ, 32, .inl (aB (va_up (va_cpy (fun j => ftB D U (nms ci) j) xs 0 0 k0) k0 (ftB D U (nms ci) k0)))))] H := hP
          have hD : va_D A [(g0, .inr (5, [.int (nI 0), .ref qD, .ref qT, .int (nI U), .int (pI le wl), .int wd, .ref qN, .ref qO, .ref qS, .ref qC, .ref qP, .ref qG, .ref qB, .ref qF, .ref qX])), (qD, .inl (cI, 4096, .inl (aN D))), (qN, .inl (cI, 24, .inl (aN (fN nms)))), (qX, .inl (cZ, 32, .inl (aB (va_up (va_cpy (fun j => ftB D U (nms ci) j) xs 0 0 k0) k0 (ftB D U (nms ci) k0)))))] := hD
          have hu_4 : va_up (va_cpy (fun j => ftB D U (nms ci) j) xs 0 0 k0) k0 (ftB D U (nms ci) k0) = va_cpy (fun j => ftB D U (nms ci) j) xs 0 0 (k0 + 1) := cpy_up (by omega) (by rw [Nat.zero_add])
          rw [hu_4] at hP hD
          refine lv_iinc (v := nI (k0 + 1)) (lv' := [(4, .int (nI (k0 + 1))), (3, .int (-3 : Int32)), (0, .ref g0), (1, .int (nI ci)), (2, .int (nI co))]) hx hb dX5_rename_67 hl (k := 0) rfl (nr_inc _ _ (by omega)) (by decide) rfl (fun ls hl => ?_)
          refine lv_goto (tgt := 46) hx hb dX5_rename_70 (by decide) ?_
          exact ih_3 (k0 + 1) (by omega) (by omega) _ _ hP hD hS ls (lv_sub hl [0, 1, 2, 3, 4] rfl)
    exact loop_2 (32 + 1) 0 (by omega) (by omega) _ _ (by rw [cpy_0]; exact hP) (by rw [cpy_0]; exact hD) hS ls (lv_sub hl [0, 1, 2, 3, 4] rfl)
  · have ex_1 := ex_1.trans ef
    subst ex_1
    refine lv_istore_n (lv' := [(3, .int (-1 : Int32)), (0, .ref g0), (1, .int (nI ci)), (2, .int (nI co))]) hx hb dX5_rename_42 rfl hl (by decide) rfl (fun ls hl => ?_)
    refine lv_iconst (v := nI 0) hx hb dX5_rename_43 (by decide) ?_
    refine lv_istore (lv' := [(4, .int (nI 0)), (3, .int (-1 : Int32)), (0, .ref g0), (1, .int (nI ci)), (2, .int (nI co))]) hx hb dX5_rename_44 hl (by decide) rfl (fun ls hl => ?_)
    have loop_5 : ∀ (n k0 : Nat), k0 ≤ 32 → 32 + 1 ≤ k0 + n → ∀ (H : Heap) (locs : List Loc), va_P dd vwCl [(g0, .inr (5, [.int (nI 0), .ref qD, .ref qT, .int (nI U), .int (pI le wl), .int wd, .ref qN, .ref qO, .ref qS, .ref qC, .ref qP, .ref qG, .ref qB, .ref qF, .ref qX])), (qD, .inl (cI, 4096, .inl (aN D))), (qN, .inl (cI, 24, .inl (aN (fN nms)))), (qX, .inl (cZ, 32, .inl (aB (va_cpy (fun j => ftB D U (nms ci) j) xs 0 0 k0))))] H → va_D A [(g0, .inr (5, [.int (nI 0), .ref qD, .ref qT, .int (nI U), .int (pI le wl), .int wd, .ref qN, .ref qO, .ref qS, .ref qC, .ref qP, .ref qG, .ref qB, .ref qF, .ref qX])), (qD, .inl (cI, 4096, .inl (aN D))), (qN, .inl (cI, 24, .inl (aN (fN nms)))), (qX, .inl (cZ, 32, .inl (aB (va_cpy (fun j => ftB D U (nms ci) j) xs 0 0 k0))))] → va_S A s.heap H locs → ∀ ls : Array Slot, lv_has ls 7 [(4, .int (nI k0)), (3, .int (-1 : Int32)), (0, .ref g0), (1, .int (nI ci)), (2, .int (nI co))] → W p l e (({ frames := 2, cells := 0, slots := 0, locals := 50 } : Room)) s m ([.ref g0, .int (nI ci), .int (nI co)] : List Value).toArray below meth c H locs 0 0 (MQ below (va_Qi (fun (r : Int32) (u : (Nat → Nat) × Nat × Int32 × (Nat → Bool)) => (r, u.1, u.2.1, u.2.2.1) = mRename le D wl wd U (nms ci) (nms co)) (fun u t => qa dd A [(g0, .inr (5, [.int (nI 0), .ref qD, .ref qT, .int (nI U), .int (pI le u.2.1), .int u.2.2.1, .ref qN, .ref qO, .ref qS, .ref qC, .ref qP, .ref qG, .ref qB, .ref qF, .ref qX])), (qD, .inl (cI, 4096, .inl (aN u.1))), (qN, .inl (cI, 24, .inl (aN (fN nms)))), (qX, .inl (cZ, 32, .inl (aB u.2.2.2)))] t) A) ([.ref g0, .int (nI ci), .int (nI co)] : List Value).toArray s 0 0 A) (F0 m 46 ls []) := by
      intro n
      induction n with
      | zero => intro k0 h1 h2; exact absurd h2 (by omega)
      | succ n ih =>
        intro k0 hk_k0 hn_k0 H locs hP hD hS ls hl
        have ih_6 := ih
        refine lv_iload hx hb dX5_rename_46 (lv_at hl 0 rfl) ?_
        refine lv_bipush (v := nI 32) hx hb dX5_rename_48 (by decide) ?_
        refine nr_ge (tgt := 73) hx hb (by omega) (by omega) dX5_rename_50 (by decide) (fun c_50 => ?_) (fun c_50 => ?_)
        · have ek_k0 : k0 = 32 := by omega
          subst ek_k0
          refine lv_iconst (v := nI 0) hx hb dX5_rename_73 (by decide) ?_
          refine lv_istore (lv' := [(4, .int (nI 0)), (3, .int (-1 : Int32)), (0, .ref g0), (1, .int (nI ci)), (2, .int (nI co))]) hx hb dX5_rename_74 hl (by decide) rfl (fun ls hl => ?_)
          refine lv_iload hx hb dX5_rename_76 (lv_at hl 0 rfl) ?_
          refine lv_bipush (v := nI 32) hx hb dX5_rename_78 (by decide) ?_
          refine nr_ge (tgt := 187) hx hb (by omega) (by omega) dX5_rename_80 (by decide) (fun c_80 => absurd c_80 (by omega)) (fun c_80 => ?_)
          refine lv_iload_n hx hb dX5_rename_83 rfl (lv_at hl 1 rfl) ?_
          refine lv_if_le (tgt := 187) hx hb dX5_rename_84 (by decide) (fun c_84 => ?_) (fun c_84 => absurd c_84 (by decide))
          refine lv_iload_n hx hb dX5_rename_187 rfl (lv_at hl 1 rfl) ?_
          have hP9 := hP.sub (ws' := [(g0, .inr (5, [.int (nI 0), .ref qD, .ref qT, .int (nI U), .int (pI le wl), .int wd, .ref qN, .ref qO, .ref qS, .ref qC, .ref qP, .ref qG, .ref qB, .ref qF, .ref qX])), (qD, .inl (cI, 4096, .inl (aN D))), (qN, .inl (cI, 24, .inl (aN (fN nms)))), (qX, .inl (cZ, 32, .inl (aB (va_cpy (fun j => ftB D U (nms ci) j) xs 0 0 32))))]) [0, 1, 2, 3] rfl
          have hD9 := hD.sub (ws' := [(g0, .inr (5, [.int (nI 0), .ref qD, .ref qT, .int (nI U), .int (pI le wl), .int wd, .ref qN, .ref qO, .ref qS, .ref qC, .ref qP, .ref qG, .ref qB, .ref qF, .ref qX])), (qD, .inl (cI, 4096, .inl (aN D))), (qN, .inl (cI, 24, .inl (aN (fN nms)))), (qX, .inl (cZ, 32, .inl (aB (va_cpy (fun j => ftB D U (nms ci) j) xs 0 0 32))))]) [0, 1, 2, 3] (by decide) rfl
          exact W.iret (v := (-1 : Int32)) hx hb hr (fun t ht hW => ⟨⟨(-1 : Int32), (D, wl, wd, va_cpy (fun j => ftB D U (nms ci) j) xs 0 0 32), rfl, by simp only [mRename]; rw [if_neg (by rw [ho]; decide), mRn_none 32 0 0 (fun j h1 h2 => cnt_0 32 hn0 j (by omega))]; rfl, by rw [ht]; exact hP9, hD9⟩, hS.F ht⟩) hS.2.2 dX5_rename_188
        · refine lv_aload_n hx hb dX5_rename_53 rfl (lv_at hl 2 rfl) ?_
          refine va_get (D := dd) (ci := 5) (v := .ref qX) (C := RX5) (T := TX5) (N := 15) hx hb hts hin_X5 hown hK.1 hP 0 rfl rfl 14 (by decide) hf_45 (fun _ h9 => h9) rfl dX5_rename_54 ?_
          refine lv_iload hx hb dX5_rename_57 (lv_at hl 0 rfl) ?_
          refine lv_aload_n hx hb dX5_rename_59 rfl (lv_at hl 2 rfl) ?_
          refine lv_iload_n hx hb dX5_rename_60 rfl (lv_at hl 3 rfl) ?_
          refine lv_iload hx hb dX5_rename_61 (lv_at hl 0 rfl) ?_
          refine cr_i (va_runV (As := [.int (nI ci), .int (nI k0)]) (rest := [.int (nI k0), .ref qX]) ⟨hx, hb, hml, hown, hts⟩ (kX5_fits l dd cI cZ cR cJ g0 0 U le wl wd qD qT qN qO qS qC qP qG qB qF qX D nms ci k0 (by omega) (by omega) hDb hnb (by omega)) (cwV 2 hts gX5_rename_X5_fits rfl rfl rfl (by decide +kernel) ⟨Nat.le_of_ble_eq_true rfl, Nat.le_of_ble_eq_true rfl⟩) (pv_c hK hP 0 rfl (ci := 5) rfl [0, 1, 2] rfl) rfl rfl hl.1 rfl (lv_room (Nat.le_of_ble_eq_true rfl)) dX5_rename_63 ⟨Nat.zero_le _, Nat.zero_le _⟩) ?_
          refine nr_zast (f := va_cpy (fun j => ftB D U (nms ci) j) xs 0 0 k0) (ftB D U (nms ci) k0) (by rfl) hx hb hK hP hD hS 3 rfl (by omega) (by decide) dX5_rename_66 (fun H locs hP hD hS => ?_)
          have hP : va_P dd vwCl [(g0, .inr (5, [.int (nI 0), .ref qD, .ref qT, .int (nI U), .int (pI le wl), .int wd, .ref qN, .ref qO, .ref qS, .ref qC, .ref qP, .ref qG, .ref qB, .ref qF, .ref qX])), (qD, .inl (cI, 4096, .inl (aN D))), (qN, .inl (cI, 24, .inl (aN (fN nms)))), (qX, .inl (cZ, 32, .inl (aB (va_up (va_cpy (fun j => ftB D U (nms ci) j) xs 0 0 k0) k0 (ftB D U (nms ci) k0)))))] H := hP
          have hD : va_D A [(g0, .inr (5, [.int (nI 0), .ref qD, .ref qT, .int (nI U), .int (pI le wl), .int wd, .ref qN, .ref qO, .ref qS, .ref qC, .ref qP, .ref qG, .ref qB, .ref qF, .ref qX])), (qD, .inl (cI, 4096, .inl (aN D))), (qN, .inl (cI, 24, .inl (aN (fN nms)))), (qX, .inl (cZ, 32, .inl (aB (va_up (va_cpy (fun j => ftB D U (nms ci) j) xs 0 0 k0) k0 (ftB D U (nms ci) k0)))))] := hD
          have hu_7 : va_up (va_cpy (fun j => ftB D U (nms ci) j) xs 0 0 k0) k0 (ftB D U (nms ci) k0) = va_cpy (fun j => ftB D U (nms ci) j) xs 0 0 (k0 + 1) := cpy_up (by omega) (by rw [Nat.zero_add])
          rw [hu_7] at hP hD
          refine lv_iinc (v := nI (k0 + 1)) (lv' := [(4, .int (nI (k0 + 1))), (3, .int (-1 : Int32)), (0, .ref g0), (1, .int (nI ci)), (2, .int (nI co))]) hx hb dX5_rename_67 hl (k := 0) rfl (nr_inc _ _ (by omega)) (by decide) rfl (fun ls hl => ?_)
          refine lv_goto (tgt := 46) hx hb dX5_rename_70 (by decide) ?_
          exact ih_6 (k0 + 1) (by omega) (by omega) _ _ hP hD hS ls (lv_sub hl [0, 1, 2, 3, 4] rfl)
    exact loop_5 (32 + 1) 0 (by omega) (by omega) _ _ (by rw [cpy_0]; exact hP) (by rw [cpy_0]; exact hD) hS ls (lv_sub hl [0, 1, 2, 3, 4] rfl)
  · have ex_1 := ex_1.trans ef
    subst ex_1
    refine lv_istore_n (lv' := [(3, .int (nI (cnt (ftB D U (nms ci)) 32))), (0, .ref g0), (1, .int (nI ci)), (2, .int (nI co))]) hx hb dX5_rename_42 rfl hl (by decide) rfl (fun ls hl => ?_)
    refine lv_iconst (v := nI 0) hx hb dX5_rename_43 (by decide) ?_
    refine lv_istore (lv' := [(4, .int (nI 0)), (3, .int (nI (cnt (ftB D U (nms ci)) 32))), (0, .ref g0), (1, .int (nI ci)), (2, .int (nI co))]) hx hb dX5_rename_44 hl (by decide) rfl (fun ls hl => ?_)
    have loop_8 : ∀ (n k0 : Nat), k0 ≤ 32 → 32 + 1 ≤ k0 + n → ∀ (H : Heap) (locs : List Loc), va_P dd vwCl [(g0, .inr (5, [.int (nI 0), .ref qD, .ref qT, .int (nI U), .int (pI le wl), .int wd, .ref qN, .ref qO, .ref qS, .ref qC, .ref qP, .ref qG, .ref qB, .ref qF, .ref qX])), (qD, .inl (cI, 4096, .inl (aN D))), (qN, .inl (cI, 24, .inl (aN (fN nms)))), (qX, .inl (cZ, 32, .inl (aB (va_cpy (fun j => ftB D U (nms ci) j) xs 0 0 k0))))] H → va_D A [(g0, .inr (5, [.int (nI 0), .ref qD, .ref qT, .int (nI U), .int (pI le wl), .int wd, .ref qN, .ref qO, .ref qS, .ref qC, .ref qP, .ref qG, .ref qB, .ref qF, .ref qX])), (qD, .inl (cI, 4096, .inl (aN D))), (qN, .inl (cI, 24, .inl (aN (fN nms)))), (qX, .inl (cZ, 32, .inl (aB (va_cpy (fun j => ftB D U (nms ci) j) xs 0 0 k0))))] → va_S A s.heap H locs → ∀ ls : Array Slot, lv_has ls 7 [(4, .int (nI k0)), (3, .int (nI (cnt (ftB D U (nms ci)) 32))), (0, .ref g0), (1, .int (nI ci)), (2, .int (nI co))] → W p l e (({ frames := 2, cells := 0, slots := 0, locals := 50 } : Room)) s m ([.ref g0, .int (nI ci), .int (nI co)] : List Value).toArray below meth c H locs 0 0 (MQ below (va_Qi (fun (r : Int32) (u : (Nat → Nat) × Nat × Int32 × (Nat → Bool)) => (r, u.1, u.2.1, u.2.2.1) = mRename le D wl wd U (nms ci) (nms co)) (fun u t => qa dd A [(g0, .inr (5, [.int (nI 0), .ref qD, .ref qT, .int (nI U), .int (pI le u.2.1), .int u.2.2.1, .ref qN, .ref qO, .ref qS, .ref qC, .ref qP, .ref qG, .ref qB, .ref qF, .ref qX])), (qD, .inl (cI, 4096, .inl (aN u.1))), (qN, .inl (cI, 24, .inl (aN (fN nms)))), (qX, .inl (cZ, 32, .inl (aB u.2.2.2)))] t) A) ([.ref g0, .int (nI ci), .int (nI co)] : List Value).toArray s 0 0 A) (F0 m 46 ls []) := by
      intro n
      induction n with
      | zero => intro k0 h1 h2; exact absurd h2 (by omega)
      | succ n ih =>
        intro k0 hk_k0 hn_k0 H locs hP hD hS ls hl
        have ih_9 := ih
        refine lv_iload hx hb dX5_rename_46 (lv_at hl 0 rfl) ?_
        refine lv_bipush (v := nI 32) hx hb dX5_rename_48 (by decide) ?_
        refine nr_ge (tgt := 73) hx hb (by omega) (by omega) dX5_rename_50 (by decide) (fun c_50 => ?_) (fun c_50 => ?_)
        · have ek_k0 : k0 = 32 := by omega
          subst ek_k0
          refine lv_iconst (v := nI 0) hx hb dX5_rename_73 (by decide) ?_
          refine lv_istore (lv' := [(4, .int (nI 0)), (3, .int (nI (cnt (ftB D U (nms ci)) 32))), (0, .ref g0), (1, .int (nI ci)), (2, .int (nI co))]) hx hb dX5_rename_74 hl (by decide) rfl (fun ls hl => ?_)
          have loop_10 : ∀ (n k : Nat), k ≤ 32 → 32 + 1 ≤ k + n → ∀ (Dk : Nat → Nat), ∀ (wlk : Nat), ∀ (wdk : Int32), (∀ j, Dk j < 256) → (wlk ≤ 1000) → (∀ j, k ≤ j → j < 32 → ftB Dk U (nms ci) j = ftB D U (nms ci) j) → (mRn le U (nms ci) (nms co) 32 0 0 D wl wd = mRn le U (nms ci) (nms co) (32 - k) k (cnt (ftB D U (nms ci)) k) Dk wlk wdk) → ∀ (H : Heap) (locs : List Loc), va_P dd vwCl [(g0, .inr (5, [.int (nI 0), .ref qD, .ref qT, .int (nI U), .int (pI le wlk), .int wdk, .ref qN, .ref qO, .ref qS, .ref qC, .ref qP, .ref qG, .ref qB, .ref qF, .ref qX])), (qD, .inl (cI, 4096, .inl (aN Dk))), (qN, .inl (cI, 24, .inl (aN (fN nms)))), (qX, .inl (cZ, 32, .inl (aB (va_cpy (fun j => ftB D U (nms ci) j) xs 0 0 32))))] H → va_D A [(g0, .inr (5, [.int (nI 0), .ref qD, .ref qT, .int (nI U), .int (pI le wlk), .int wdk, .ref qN, .ref qO, .ref qS, .ref qC, .ref qP, .ref qG, .ref qB, .ref qF, .ref qX])), (qD, .inl (cI, 4096, .inl (aN Dk))), (qN, .inl (cI, 24, .inl (aN (fN nms)))), (qX, .inl (cZ, 32, .inl (aB (va_cpy (fun j => ftB D U (nms ci) j) xs 0 0 32))))] → va_S A s.heap H locs → ∀ ls : Array Slot, lv_has ls 7 [(4, .int (nI k)), (3, .int (nI (cnt (ftB D U (nms ci)) 32))), (0, .ref g0), (1, .int (nI ci)), (2, .int (nI co))] → W p l e (({ frames := 2, cells := 0, slots := 0, locals := 50 } : Room)) s m ([.ref g0, .int (nI ci), .int (nI co)] : List Value).toArray below meth c H locs 0 0 (MQ below (va_Qi (fun (r : Int32) (u : (Nat → Nat) × Nat × Int32 × (Nat → Bool)) => (r, u.1, u.2.1, u.2.2.1) = mRename le D wl wd U (nms ci) (nms co)) (fun u t => qa dd A [(g0, .inr (5, [.int (nI 0), .ref qD, .ref qT, .int (nI U), .int (pI le u.2.1), .int u.2.2.1, .ref qN, .ref qO, .ref qS, .ref qC, .ref qP, .ref qG, .ref qB, .ref qF, .ref qX])), (qD, .inl (cI, 4096, .inl (aN u.1))), (qN, .inl (cI, 24, .inl (aN (fN nms)))), (qX, .inl (cZ, 32, .inl (aB u.2.2.2)))] t) A) ([.ref g0, .int (nI ci), .int (nI co)] : List Value).toArray s 0 0 A) (F0 m 76 ls []) := by
            intro n
            induction n with
            | zero => intro k h1 h2; exact absurd h2 (by omega)
            | succ n ih =>
              intro k hk_k hn_k Dk wlk wdk hDk hwk hfit hf H locs hP hD hS ls hl
              have ih_11 := ih
              have hc32 := cnt_le (ftB D U (nms ci)) 32
              refine lv_iload hx hb dX5_rename_76 (lv_at hl 0 rfl) ?_
              refine lv_bipush (v := nI 32) hx hb dX5_rename_78 (by decide) ?_
              refine nr_ge (tgt := 187) hx hb (by omega) (by omega) dX5_rename_80 (by decide) (fun c_80 => ?_) (fun c_80 => ?_)
              · have ek_k : k = 32 := by omega
                subst ek_k
                refine lv_iload_n hx hb dX5_rename_187 rfl (lv_at hl 1 rfl) ?_
                have hP9 := hP.sub (ws' := [(g0, .inr (5, [.int (nI 0), .ref qD, .ref qT, .int (nI U), .int (pI le wlk), .int wdk, .ref qN, .ref qO, .ref qS, .ref qC, .ref qP, .ref qG, .ref qB, .ref qF, .ref qX])), (qD, .inl (cI, 4096, .inl (aN Dk))), (qN, .inl (cI, 24, .inl (aN (fN nms)))), (qX, .inl (cZ, 32, .inl (aB (va_cpy (fun j => ftB D U (nms ci) j) xs 0 0 32))))]) [0, 1, 2, 3] rfl
                have hD9 := hD.sub (ws' := [(g0, .inr (5, [.int (nI 0), .ref qD, .ref qT, .int (nI U), .int (pI le wlk), .int wdk, .ref qN, .ref qO, .ref qS, .ref qC, .ref qP, .ref qG, .ref qB, .ref qF, .ref qX])), (qD, .inl (cI, 4096, .inl (aN Dk))), (qN, .inl (cI, 24, .inl (aN (fN nms)))), (qX, .inl (cZ, 32, .inl (aB (va_cpy (fun j => ftB D U (nms ci) j) xs 0 0 32))))]) [0, 1, 2, 3] (by decide) rfl
                exact W.iret (v := nI (cnt (ftB D U (nms ci)) 32)) hx hb hr (fun t ht hW => ⟨⟨nI (cnt (ftB D U (nms ci)) 32), (Dk, wlk, wdk, va_cpy (fun j => ftB D U (nms ci) j) xs 0 0 32), rfl, by simp only [mRename]; rw [if_neg (by rw [ho]; decide), hf]; simp [mRn, hmI, hn0], by rw [ht]; exact hP9, hD9⟩, hS.F ht⟩) hS.2.2 dX5_rename_188
              · refine lv_iload_n hx hb dX5_rename_83 rfl (lv_at hl 1 rfl) ?_
                refine nr_if_le (tgt := 187) hx hb (by omega) dX5_rename_84 (by decide) (fun c_84 => absurd c_84 (by omega)) (fun c_84 => ?_)
                refine lv_aload_n hx hb dX5_rename_87 rfl (lv_at hl 2 rfl) ?_
                refine va_get (D := dd) (ci := 5) (v := .ref qX) (C := RX5) (T := TX5) (N := 15) hx hb hts hin_X5 hown hK.1 hP 0 rfl rfl 14 (by decide) hf_45 (fun _ h9 => h9) rfl dX5_rename_88 ?_
                refine lv_iload hx hb dX5_rename_91 (lv_at hl 0 rfl) ?_
                refine nr_zald (f := va_cpy (fun j => ftB D U (nms ci) j) xs 0 0 32) hx hb hK hP 3 rfl (by omega) (by decide) dX5_rename_93 ?_
                refine br_top (b := ftB D U (nms ci) k) (by rw [pk_cpy_in (by omega) (by omega), Nat.zero_add, Nat.sub_zero]) ?_
                refine br_if_eq (tgt := 181) hx hb dX5_rename_94 (by decide) (fun c_94 => ?_) (fun c_94 => ?_)
                · refine lv_iinc (v := nI (k + 1)) (lv' := [(4, .int (nI (k + 1))), (3, .int (nI (cnt (ftB D U (nms ci)) 32))), (0, .ref g0), (1, .int (nI ci)), (2, .int (nI co))]) hx hb dX5_rename_181 hl (k := 0) rfl (nr_inc _ _ (by omega)) (by decide) rfl (fun ls hl => ?_)
                  refine lv_goto (tgt := 76) hx hb dX5_rename_184 (by decide) ?_
                  exact ih_11 (k + 1) (by omega) (by omega) Dk wlk wdk hDk hwk (fun j h1 h2 => hfit j (by omega) h2) (by rw [hf, mRn_at (by omega), cnt_n c_94]; simp [((hfit k (by omega) (by omega)).trans c_94)]) _ _ hP hD hS ls (lv_sub hl [0, 1, 2, 3, 4] rfl)
                · refine lv_aload_n hx hb dX5_rename_97 rfl (lv_at hl 2 rfl) ?_
                  refine cm_i (wc := [(g0, .inr (5, [.int (nI 0), .ref qD, .ref qT, .int (nI U), .int (pI le wlk), .int wdk, .ref qN, .ref qO, .ref qS, .ref qC, .ref qP, .ref qG, .ref qB, .ref qF, .ref qX]))]) (wr := [(qD, .inl (cI, 4096, .inl (aN Dk))), (qN, .inl (cI, 24, .inl (aN (fN nms)))), (qX, .inl (cZ, 32, .inl (aB (va_cpy (fun j => ftB D U (nms ci) j) xs 0 0 32))))]) (w1 := fun u : Bool => [(g0, .inr (5, [.int (nI 0), .ref qD, .ref qT, .int (nI U), .int (pI le (wlW le wlk)), .int (wdW le wlk wdk), .ref qN, .ref qO, .ref qS, .ref qC, .ref qP, .ref qG, .ref qB, .ref qF, .ref qX]))]) hP hD hS hA [0] [1, 2, 3] rfl rfl (by decide) (by decide) (va_runV (As := []) (rest := []) ⟨hx, hb, hml, hown, hts⟩ (kX5_canWrite l dd cI cZ cR cJ g0 0 U le wlk wdk qD qT qN qO qS qC qP qG qB qF qX H.size hwk) (cwV 0 hts gX5_rename_X5_canWrite rfl rfl rfl (by decide +kernel) ⟨Nat.le_of_ble_eq_true rfl, Nat.le_of_ble_eq_true rfl⟩) (pv_m hK hP hD 0 rfl (ci := 5) rfl [0] (by decide) rfl rfl) rfl rfl hl.1 rfl (lv_room (Nat.le_of_ble_eq_true rfl)) dX5_rename_98 ⟨Nat.zero_le _, Nat.zero_le _⟩) (fun r_13 u9 H locs hw hP hD hS => ?_)
                  obtain ⟨b_12, rfl⟩ : ∃ z, z = u9 := ⟨_, rfl⟩
                  obtain ⟨hr9, hw_14⟩ := hw
                  try dsimp only at hr9 hw_14
                  subst hr9
                  have hP : va_P dd vwCl [(qD, .inl (cI, 4096, .inl (aN Dk))), (qN, .inl (cI, 24, .inl (aN (fN nms)))), (qX, .inl (cZ, 32, .inl (aB (va_cpy (fun j => ftB D U (nms ci) j) xs 0 0 32)))), (g0, .inr (5, [.int (nI 0), .ref qD, .ref qT, .int (nI U), .int (pI le (wlW le wlk)), .int (wdW le wlk wdk), .ref qN, .ref qO, .ref qS, .ref qC, .ref qP, .ref qG, .ref qB, .ref qF, .ref qX]))] H := hP
                  have hD : va_D A [(qD, .inl (cI, 4096, .inl (aN Dk))), (qN, .inl (cI, 24, .inl (aN (fN nms)))), (qX, .inl (cZ, 32, .inl (aB (va_cpy (fun j => ftB D U (nms ci) j) xs 0 0 32)))), (g0, .inr (5, [.int (nI 0), .ref qD, .ref qT, .int (nI U), .int (pI le (wlW le wlk)), .int (wdW le wlk wdk), .ref qN, .ref qO, .ref qS, .ref qC, .ref qP, .ref qG, .ref qB, .ref qF, .ref qX]))] := hD
                  refine br_if_ne (tgt := 107) hx hb dX5_rename_101 (by decide) (fun c_101 => ?_) (fun c_101 => ?_)
                  · refine lv_iconst (v := nI 0) hx hb dX5_rename_107 (by decide) ?_
                    refine lv_istore (lv' := [(5, .int (nI 0)), (4, .int (nI k)), (3, .int (nI (cnt (ftB D U (nms ci)) 32))), (0, .ref g0), (1, .int (nI ci)), (2, .int (nI co))]) hx hb dX5_rename_108 hl (by decide) rfl (fun ls hl => ?_)
                    have loop_15 : ∀ (n k2 : Nat), k2 ≤ 6 → 6 + 1 ≤ k2 + n → ∀ (H : Heap) (locs : List Loc), va_P dd vwCl [(qD, .inl (cI, 4096, .inl (aN (va_cpy (rnL Dk k (nms co)) Dk 0 (16 * k + 1) k2)))), (qN, .inl (cI, 24, .inl (aN (fN nms)))), (qX, .inl (cZ, 32, .inl (aB (va_cpy (fun j => ftB D U (nms ci) j) xs 0 0 32)))), (g0, .inr (5, [.int (nI 0), .ref qD, .ref qT, .int (nI U), .int (pI le (wlW le wlk)), .int (wdW le wlk wdk), .ref qN, .ref qO, .ref qS, .ref qC, .ref qP, .ref qG, .ref qB, .ref qF, .ref qX]))] H → va_D A [(qD, .inl (cI, 4096, .inl (aN (va_cpy (rnL Dk k (nms co)) Dk 0 (16 * k + 1) k2)))), (qN, .inl (cI, 24, .inl (aN (fN nms)))), (qX, .inl (cZ, 32, .inl (aB (va_cpy (fun j => ftB D U (nms ci) j) xs 0 0 32)))), (g0, .inr (5, [.int (nI 0), .ref qD, .ref qT, .int (nI U), .int (pI le (wlW le wlk)), .int (wdW le wlk wdk), .ref qN, .ref qO, .ref qS, .ref qC, .ref qP, .ref qG, .ref qB, .ref qF, .ref qX]))] → va_S A s.heap H locs → ∀ ls : Array Slot, lv_has ls 7 [(5, .int (nI k2)), (4, .int (nI k)), (3, .int (nI (cnt (ftB D U (nms ci)) 32))), (0, .ref g0), (1, .int (nI ci)), (2, .int (nI co))] → W p l e (({ frames := 2, cells := 0, slots := 0, locals := 50 } : Room)) s m ([.ref g0, .int (nI ci), .int (nI co)] : List Value).toArray below meth c H locs 0 0 (MQ below (va_Qi (fun (r : Int32) (u : (Nat → Nat) × Nat × Int32 × (Nat → Bool)) => (r, u.1, u.2.1, u.2.2.1) = mRename le D wl wd U (nms ci) (nms co)) (fun u t => qa dd A [(g0, .inr (5, [.int (nI 0), .ref qD, .ref qT, .int (nI U), .int (pI le u.2.1), .int u.2.2.1, .ref qN, .ref qO, .ref qS, .ref qC, .ref qP, .ref qG, .ref qB, .ref qF, .ref qX])), (qD, .inl (cI, 4096, .inl (aN u.1))), (qN, .inl (cI, 24, .inl (aN (fN nms)))), (qX, .inl (cZ, 32, .inl (aB u.2.2.2)))] t) A) ([.ref g0, .int (nI ci), .int (nI co)] : List Value).toArray s 0 0 A) (F0 m 110 ls []) := by
                      intro n
                      induction n with
                      | zero => intro k2 h1 h2; exact absurd h2 (by omega)
                      | succ n ih =>
                        intro k2 hk_k2 hn_k2 H locs hP hD hS ls hl
                        have ih_16 := ih
                        refine lv_iload hx hb dX5_rename_110 (lv_at hl 0 rfl) ?_
                        refine lv_bipush (v := nI 6) hx hb dX5_rename_112 (by decide) ?_
                        refine nr_ge (tgt := 181) hx hb (by omega) (by omega) dX5_rename_114 (by decide) (fun c_114 => ?_) (fun c_114 => ?_)
                        · have ek_k2 : k2 = 6 := by omega
                          subst ek_k2
                          have hz : va_cpy (rnL Dk k (nms co)) Dk 0 (16 * k + 1) 6 = nmD Dk k (nms co) := nm_twin _ _ _
                          rw [hz] at hP hD
                          refine lv_iinc (v := nI (k + 1)) (lv' := [(4, .int (nI (k + 1))), (5, .int (nI 6)), (3, .int (nI (cnt (ftB D U (nms ci)) 32))), (0, .ref g0), (1, .int (nI ci)), (2, .int (nI co))]) hx hb dX5_rename_181 hl (k := 1) rfl (nr_inc _ _ (by omega)) (by decide) rfl (fun ls hl => ?_)
                          refine lv_goto (tgt := 76) hx hb dX5_rename_184 (by decide) ?_
                          exact ih_11 (k + 1) (by omega) (by omega) (nmD Dk k (nms co)) (wlW le wlk) (wdW le wlk wdk) (nmD_lt hDk (hnb co)) (wlW_le hwk) (fun j h1 h2 => (ft_row (by omega)).trans (hfit j (by omega) h2)) (by rw [hf, mRn_at (by omega), cnt_y c_94]; simp [((hfit k (by omega) (by omega)).trans c_94), (hw_14.symm.trans c_101)]) _ _ (hP.sub [3, 0, 1, 2] rfl) (hD.sub [3, 0, 1, 2] (by decide) rfl) hS ls (lv_sub hl [0, 2, 3, 4, 5] rfl)
                        · refine lv_iload hx hb dX5_rename_117 (lv_at hl 0 rfl) ?_
                          refine lv_iconst (v := nI 4) hx hb dX5_rename_119 (by decide) ?_
                          refine nr_ne (tgt := 142) hx hb (by omega) (by omega) dX5_rename_120 (by decide) (fun c_120 => ?_) (fun c_120 => ?_)
                          · refine lv_iconst (v := nI 0) hx hb dX5_rename_142 (by decide) ?_
                            refine lv_istore (lv' := [(6, .int (nI 0)), (5, .int (nI k2)), (4, .int (nI k)), (3, .int (nI (cnt (ftB D U (nms ci)) 32))), (0, .ref g0), (1, .int (nI ci)), (2, .int (nI co))]) hx hb dX5_rename_143 hl (by decide) rfl (fun ls hl => ?_)
                            refine lv_aload_n hx hb dX5_rename_145 rfl (lv_at hl 4 rfl) ?_
                            refine va_get (D := dd) (ci := 5) (v := .ref qD) (C := RX5) (T := TX5) (N := 15) hx hb hts hin_X5 hown hK.1 hP 3 rfl rfl 1 (by decide) hf_7 (fun _ h9 => h9) rfl dX5_rename_146 ?_
                            refine lv_bipush (v := nI 16) hx hb dX5_rename_149 (by decide) ?_
                            refine lv_iload hx hb dX5_rename_151 (lv_at hl 2 rfl) ?_
                            refine nr_imul (16 * k) (by omega) hx hb dX5_rename_153 ?_
                            refine lv_iconst (v := nI 1) hx hb dX5_rename_154 (by decide) ?_
                            refine nr_iadd (16 * k + 1) (by omega) hx hb dX5_rename_155 ?_
                            refine lv_iload hx hb dX5_rename_156 (lv_at hl 1 rfl) ?_
                            refine nr_iadd (16 * k + k2 + 1) (by omega) hx hb dX5_rename_158 ?_
                            refine lv_aload_n hx hb dX5_rename_159 rfl (lv_at hl 4 rfl) ?_
                            refine va_get (D := dd) (ci := 5) (v := .ref qN) (C := RX5) (T := TX5) (N := 15) hx hb hts hin_X5 hown hK.1 hP 3 rfl rfl 6 (by decide) hf_21 (fun _ h9 => h9) rfl dX5_rename_160 ?_
                            refine lv_bipush (v := nI 6) hx hb dX5_rename_163 (by decide) ?_
                            refine lv_iload_n hx hb dX5_rename_165 rfl (lv_at hl 6 rfl) ?_
                            refine nr_imul (6 * co) (by omega) hx hb dX5_rename_166 ?_
                            refine lv_iload hx hb dX5_rename_167 (lv_at hl 1 rfl) ?_
                            refine nr_iadd (6 * co + k2) (by omega) hx hb dX5_rename_169 ?_
                            refine nr_iald (f := fN nms) hx hb hK hP 1 rfl (by omega) (by decide) dX5_rename_170 ?_
                            refine nr_top (b := nms co k2) (fN_at (by omega)) ?_
                            have hv_17 := hnb co k2
                            refine lv_iload hx hb dX5_rename_171 (lv_at hl 0 rfl) ?_
                            refine nr_ior (nms co k2) (by omega) hx hb (by omega) (by omega) dX5_rename_173 ?_
                            refine nr_iast (f := va_cpy (rnL Dk k (nms co)) Dk 0 (16 * k + 1) k2) (v := nms co k2) hx hb hK hP hD hS 0 rfl (by omega) (by decide) dX5_rename_174 (fun H locs hP hD hS => ?_)
                            have hP : va_P dd vwCl [(qD, .inl (cI, 4096, .inl (aN (va_up (va_cpy (rnL Dk k (nms co)) Dk 0 (16 * k + 1) k2) (16 * k + k2 + 1) (nms co k2))))), (qN, .inl (cI, 24, .inl (aN (fN nms)))), (qX, .inl (cZ, 32, .inl (aB (va_cpy (fun j => ftB D U (nms ci) j) xs 0 0 32)))), (g0, .inr (5, [.int (nI 0), .ref qD, .ref qT, .int (nI U), .int (pI le (wlW le wlk)), .int (wdW le wlk wdk), .ref qN, .ref qO, .ref qS, .ref qC, .ref qP, .ref qG, .ref qB, .ref qF, .ref qX]))] H := hP
                            have hD : va_D A [(qD, .inl (cI, 4096, .inl (aN (va_up (va_cpy (rnL Dk k (nms co)) Dk 0 (16 * k + 1) k2) (16 * k + k2 + 1) (nms co k2))))), (qN, .inl (cI, 24, .inl (aN (fN nms)))), (qX, .inl (cZ, 32, .inl (aB (va_cpy (fun j => ftB D U (nms ci) j) xs 0 0 32)))), (g0, .inr (5, [.int (nI 0), .ref qD, .ref qT, .int (nI U), .int (pI le (wlW le wlk)), .int (wdW le wlk wdk), .ref qN, .ref qO, .ref qS, .ref qC, .ref qP, .ref qG, .ref qB, .ref qF, .ref qX]))] := hD
                            have hu_18 : va_up (va_cpy (rnL Dk k (nms co)) Dk 0 (16 * k + 1) k2) (16 * k + k2 + 1) (nms co k2) = va_cpy (rnL Dk k (nms co)) Dk 0 (16 * k + 1) (k2 + 1) := cpy_up (by omega) (by rw [Nat.zero_add]; simp only [rnL]; rw [if_neg c_120]; omega)
                            rw [hu_18] at hP hD
                            refine lv_iinc (v := nI (k2 + 1)) (lv' := [(5, .int (nI (k2 + 1))), (6, .int (nI 0)), (4, .int (nI k)), (3, .int (nI (cnt (ftB D U (nms ci)) 32))), (0, .ref g0), (1, .int (nI ci)), (2, .int (nI co))]) hx hb dX5_rename_175 hl (k := 1) rfl (nr_inc _ _ (by omega)) (by decide) rfl (fun ls hl => ?_)
                            refine lv_goto (tgt := 110) hx hb dX5_rename_178 (by decide) ?_
                            exact ih_16 (k2 + 1) (by omega) (by omega) _ _ hP hD hS ls (lv_sub hl [0, 2, 3, 4, 5, 6] rfl)
                          · refine lv_aload_n hx hb dX5_rename_123 rfl (lv_at hl 3 rfl) ?_
                            refine va_get (D := dd) (ci := 5) (v := .ref qD) (C := RX5) (T := TX5) (N := 15) hx hb hts hin_X5 hown hK.1 hP 3 rfl rfl 1 (by decide) hf_7 (fun _ h9 => h9) rfl dX5_rename_124 ?_
                            refine lv_bipush (v := nI 16) hx hb dX5_rename_127 (by decide) ?_
                            refine lv_iload hx hb dX5_rename_129 (lv_at hl 1 rfl) ?_
                            refine nr_imul (16 * k) (by omega) hx hb dX5_rename_131 ?_
                            refine lv_iconst (v := nI 5) hx hb dX5_rename_132 (by decide) ?_
                            refine nr_iadd (16 * k + 5) (by omega) hx hb dX5_rename_133 ?_
                            refine nr_iald (f := va_cpy (rnL Dk k (nms co)) Dk 0 (16 * k + 1) k2) hx hb hK hP 0 rfl (by omega) (by decide) dX5_rename_134 ?_
                            refine nr_top (b := Dk (16 * k + 5)) (pk_cpy_out (by omega)) ?_
                            have hv_19 := hDk (16 * k + 5)
                            refine lv_sipush (v := nI 128) hx hb dX5_rename_135 (by decide) ?_
                            refine nr_iand128 (((Dk (16 * k + 5)) / 128 * 128)) (by omega) hx hb (by omega) dX5_rename_138 ?_
                            refine lv_goto (tgt := 143) hx hb dX5_rename_139 (by decide) ?_
                            refine lv_istore (lv' := [(6, .int (nI (((Dk (16 * k + 5)) / 128 * 128)))), (5, .int (nI k2)), (4, .int (nI k)), (3, .int (nI (cnt (ftB D U (nms ci)) 32))), (0, .ref g0), (1, .int (nI ci)), (2, .int (nI co))]) hx hb dX5_rename_143 hl (by decide) rfl (fun ls hl => ?_)
                            refine lv_aload_n hx hb dX5_rename_145 rfl (lv_at hl 4 rfl) ?_
                            refine va_get (D := dd) (ci := 5) (v := .ref qD) (C := RX5) (T := TX5) (N := 15) hx hb hts hin_X5 hown hK.1 hP 3 rfl rfl 1 (by decide) hf_7 (fun _ h9 => h9) rfl dX5_rename_146 ?_
                            refine lv_bipush (v := nI 16) hx hb dX5_rename_149 (by decide) ?_
                            refine lv_iload hx hb dX5_rename_151 (lv_at hl 2 rfl) ?_
                            refine nr_imul (16 * k) (by omega) hx hb dX5_rename_153 ?_
                            refine lv_iconst (v := nI 1) hx hb dX5_rename_154 (by decide) ?_
                            refine nr_iadd (16 * k + 1) (by omega) hx hb dX5_rename_155 ?_
                            refine lv_iload hx hb dX5_rename_156 (lv_at hl 1 rfl) ?_
                            refine nr_iadd (16 * k + k2 + 1) (by omega) hx hb dX5_rename_158 ?_
                            refine lv_aload_n hx hb dX5_rename_159 rfl (lv_at hl 4 rfl) ?_
                            refine va_get (D := dd) (ci := 5) (v := .ref qN) (C := RX5) (T := TX5) (N := 15) hx hb hts hin_X5 hown hK.1 hP 3 rfl rfl 6 (by decide) hf_21 (fun _ h9 => h9) rfl dX5_rename_160 ?_
                            refine lv_bipush (v := nI 6) hx hb dX5_rename_163 (by decide) ?_
                            refine lv_iload_n hx hb dX5_rename_165 rfl (lv_at hl 6 rfl) ?_
                            refine nr_imul (6 * co) (by omega) hx hb dX5_rename_166 ?_
                            refine lv_iload hx hb dX5_rename_167 (lv_at hl 1 rfl) ?_
                            refine nr_iadd (6 * co + k2) (by omega) hx hb dX5_rename_169 ?_
                            refine nr_iald (f := fN nms) hx hb hK hP 1 rfl (by omega) (by decide) dX5_rename_170 ?_
                            refine nr_top (b := nms co k2) (fN_at (by omega)) ?_
                            have hv_20 := hnb co k2
                            refine lv_iload hx hb dX5_rename_171 (lv_at hl 0 rfl) ?_
                            refine nr_ior (((Dk (16 * k + 5)) / 128 * 128) + nms co k2) (by omega) hx hb (by omega) (by omega) dX5_rename_173 ?_
                            refine nr_iast (f := va_cpy (rnL Dk k (nms co)) Dk 0 (16 * k + 1) k2) (v := ((Dk (16 * k + 5)) / 128 * 128) + nms co k2) hx hb hK hP hD hS 0 rfl (by omega) (by decide) dX5_rename_174 (fun H locs hP hD hS => ?_)
                            have hP : va_P dd vwCl [(qD, .inl (cI, 4096, .inl (aN (va_up (va_cpy (rnL Dk k (nms co)) Dk 0 (16 * k + 1) k2) (16 * k + k2 + 1) (((Dk (16 * k + 5)) / 128 * 128) + nms co k2))))), (qN, .inl (cI, 24, .inl (aN (fN nms)))), (qX, .inl (cZ, 32, .inl (aB (va_cpy (fun j => ftB D U (nms ci) j) xs 0 0 32)))), (g0, .inr (5, [.int (nI 0), .ref qD, .ref qT, .int (nI U), .int (pI le (wlW le wlk)), .int (wdW le wlk wdk), .ref qN, .ref qO, .ref qS, .ref qC, .ref qP, .ref qG, .ref qB, .ref qF, .ref qX]))] H := hP
                            have hD : va_D A [(qD, .inl (cI, 4096, .inl (aN (va_up (va_cpy (rnL Dk k (nms co)) Dk 0 (16 * k + 1) k2) (16 * k + k2 + 1) (((Dk (16 * k + 5)) / 128 * 128) + nms co k2))))), (qN, .inl (cI, 24, .inl (aN (fN nms)))), (qX, .inl (cZ, 32, .inl (aB (va_cpy (fun j => ftB D U (nms ci) j) xs 0 0 32)))), (g0, .inr (5, [.int (nI 0), .ref qD, .ref qT, .int (nI U), .int (pI le (wlW le wlk)), .int (wdW le wlk wdk), .ref qN, .ref qO, .ref qS, .ref qC, .ref qP, .ref qG, .ref qB, .ref qF, .ref qX]))] := hD
                            have hu_21 : va_up (va_cpy (rnL Dk k (nms co)) Dk 0 (16 * k + 1) k2) (16 * k + k2 + 1) (((Dk (16 * k + 5)) / 128 * 128) + nms co k2) = va_cpy (rnL Dk k (nms co)) Dk 0 (16 * k + 1) (k2 + 1) := cpy_up (by omega) (by rw [Nat.zero_add]; simp only [rnL]; rw [if_pos c_120]; omega)
                            rw [hu_21] at hP hD
                            refine lv_iinc (v := nI (k2 + 1)) (lv' := [(5, .int (nI (k2 + 1))), (6, .int (nI (((Dk (16 * k + 5)) / 128 * 128)))), (4, .int (nI k)), (3, .int (nI (cnt (ftB D U (nms ci)) 32))), (0, .ref g0), (1, .int (nI ci)), (2, .int (nI co))]) hx hb dX5_rename_175 hl (k := 1) rfl (nr_inc _ _ (by omega)) (by decide) rfl (fun ls hl => ?_)
                            refine lv_goto (tgt := 110) hx hb dX5_rename_178 (by decide) ?_
                            exact ih_16 (k2 + 1) (by omega) (by omega) _ _ hP hD hS ls (lv_sub hl [0, 2, 3, 4, 5, 6] rfl)
                    exact loop_15 (6 + 1) 0 (by omega) (by omega) _ _ (by rw [cpy_0]; exact hP) (by rw [cpy_0]; exact hD) hS ls (lv_sub hl [0, 1, 2, 3, 4, 5] rfl)
                  · refine lv_bipush (v := -9) hx hb dX5_rename_104 (by decide) ?_
                    have hP9 := hP.sub (ws' := [(g0, .inr (5, [.int (nI 0), .ref qD, .ref qT, .int (nI U), .int (pI le (wlW le wlk)), .int (wdW le wlk wdk), .ref qN, .ref qO, .ref qS, .ref qC, .ref qP, .ref qG, .ref qB, .ref qF, .ref qX])), (qD, .inl (cI, 4096, .inl (aN Dk))), (qN, .inl (cI, 24, .inl (aN (fN nms)))), (qX, .inl (cZ, 32, .inl (aB (va_cpy (fun j => ftB D U (nms ci) j) xs 0 0 32))))]) [3, 0, 1, 2] rfl
                    have hD9 := hD.sub (ws' := [(g0, .inr (5, [.int (nI 0), .ref qD, .ref qT, .int (nI U), .int (pI le (wlW le wlk)), .int (wdW le wlk wdk), .ref qN, .ref qO, .ref qS, .ref qC, .ref qP, .ref qG, .ref qB, .ref qF, .ref qX])), (qD, .inl (cI, 4096, .inl (aN Dk))), (qN, .inl (cI, 24, .inl (aN (fN nms)))), (qX, .inl (cZ, 32, .inl (aB (va_cpy (fun j => ftB D U (nms ci) j) xs 0 0 32))))]) [3, 0, 1, 2] (by decide) rfl
                    exact W.iret (v := (-9 : Int32)) hx hb hr (fun t ht hW => ⟨⟨(-9 : Int32), (Dk, wlW le wlk, wdW le wlk wdk, va_cpy (fun j => ftB D U (nms ci) j) xs 0 0 32), rfl, by simp only [mRename]; rw [if_neg (by rw [ho]; decide), hf, mRn_at (by omega)]; simp [((hfit k (by omega) (by omega)).trans c_94), (hw_14.symm.trans c_101)], by rw [ht]; exact hP9, hD9⟩, hS.F ht⟩) hS.2.2 dX5_rename_106
          exact loop_10 (32 + 1) 0 (by omega) (by omega) D wl wd hDb hwl (fun _ _ _ => rfl) rfl _ _ hP hD hS ls (lv_sub hl [0, 1, 2, 3, 4] rfl)
        · refine lv_aload_n hx hb dX5_rename_53 rfl (lv_at hl 2 rfl) ?_
          refine va_get (D := dd) (ci := 5) (v := .ref qX) (C := RX5) (T := TX5) (N := 15) hx hb hts hin_X5 hown hK.1 hP 0 rfl rfl 14 (by decide) hf_45 (fun _ h9 => h9) rfl dX5_rename_54 ?_
          refine lv_iload hx hb dX5_rename_57 (lv_at hl 0 rfl) ?_
          refine lv_aload_n hx hb dX5_rename_59 rfl (lv_at hl 2 rfl) ?_
          refine lv_iload_n hx hb dX5_rename_60 rfl (lv_at hl 3 rfl) ?_
          refine lv_iload hx hb dX5_rename_61 (lv_at hl 0 rfl) ?_
          refine cr_i (va_runV (As := [.int (nI ci), .int (nI k0)]) (rest := [.int (nI k0), .ref qX]) ⟨hx, hb, hml, hown, hts⟩ (kX5_fits l dd cI cZ cR cJ g0 0 U le wl wd qD qT qN qO qS qC qP qG qB qF qX D nms ci k0 (by omega) (by omega) hDb hnb (by omega)) (cwV 2 hts gX5_rename_X5_fits rfl rfl rfl (by decide +kernel) ⟨Nat.le_of_ble_eq_true rfl, Nat.le_of_ble_eq_true rfl⟩) (pv_c hK hP 0 rfl (ci := 5) rfl [0, 1, 2] rfl) rfl rfl hl.1 rfl (lv_room (Nat.le_of_ble_eq_true rfl)) dX5_rename_63 ⟨Nat.zero_le _, Nat.zero_le _⟩) ?_
          refine nr_zast (f := va_cpy (fun j => ftB D U (nms ci) j) xs 0 0 k0) (ftB D U (nms ci) k0) (by rfl) hx hb hK hP hD hS 3 rfl (by omega) (by decide) dX5_rename_66 (fun H locs hP hD hS => ?_)
          have hP : va_P dd vwCl [(g0, .inr (5, [.int (nI 0), .ref qD, .ref qT, .int (nI U), .int (pI le wl), .int wd, .ref qN, .ref qO, .ref qS, .ref qC, .ref qP, .ref qG, .ref qB, .ref qF, .ref qX])), (qD, .inl (cI, 4096, .inl (aN D))), (qN, .inl (cI, 24, .inl (aN (fN nms)))), (qX, .inl (cZ, 32, .inl (aB (va_up (va_cpy (fun j => ftB D U (nms ci) j) xs 0 0 k0) k0 (ftB D U (nms ci) k0)))))] H := hP
          have hD : va_D A [(g0, .inr (5, [.int (nI 0), .ref qD, .ref qT, .int (nI U), .int (pI le wl), .int wd, .ref qN, .ref qO, .ref qS, .ref qC, .ref qP, .ref qG, .ref qB, .ref qF, .ref qX])), (qD, .inl (cI, 4096, .inl (aN D))), (qN, .inl (cI, 24, .inl (aN (fN nms)))), (qX, .inl (cZ, 32, .inl (aB (va_up (va_cpy (fun j => ftB D U (nms ci) j) xs 0 0 k0) k0 (ftB D U (nms ci) k0)))))] := hD
          have hu_22 : va_up (va_cpy (fun j => ftB D U (nms ci) j) xs 0 0 k0) k0 (ftB D U (nms ci) k0) = va_cpy (fun j => ftB D U (nms ci) j) xs 0 0 (k0 + 1) := cpy_up (by omega) (by rw [Nat.zero_add])
          rw [hu_22] at hP hD
          refine lv_iinc (v := nI (k0 + 1)) (lv' := [(4, .int (nI (k0 + 1))), (3, .int (nI (cnt (ftB D U (nms ci)) 32))), (0, .ref g0), (1, .int (nI ci)), (2, .int (nI co))]) hx hb dX5_rename_67 hl (k := 0) rfl (nr_inc _ _ (by omega)) (by decide) rfl (fun ls hl => ?_)
          refine lv_goto (tgt := 46) hx hb dX5_rename_70 (by decide) ?_
          exact ih_9 (k0 + 1) (by omega) (by omega) _ _ hP hD hS ls (lv_sub hl [0, 1, 2, 3, 4] rfl)
    exact loop_8 (32 + 1) 0 (by omega) (by omega) _ _ (by rw [cpy_0]; exact hP) (by rw [cpy_0]; exact hD) hS ls (lv_sub hl [0, 1, 2, 3, 4] rfl)

set_option maxHeartbeats 4000000 in
set_option maxRecDepth 100000 in
theorem kX5_guard (l : Launch) (dd : va_G) (cI cZ cR cJ : ClassId) (g0 : Nat) (th : Nat) (U : Nat) (le : Bool) (wl : Nat) (wd : Int32) (qD : Nat) (qT : Nat) (qN : Nat) (qO : Nat) (qS : Nat) (qC : Nat) (qP : Nat) (qG : Nat) (qB : Nat) (qF : Nat) (qX : Nat) (D : Nat → Nat) (nms : Nat → Nat → Nat) (ci : Nat) (gd : Bool) (sz : Nat) (hci : ci < 4) (hDb : ∀ j, D j < 256) (hwl : wl ≤ 1000) (hnb : ∀ i j, nms i j < 128) (hUb : U < 16) : Met l yX5_guard wsX5_guard ({ frames := 2, cells := 0, slots := 0, locals := 50 }) (va_Pc [.ref g0, .int (nI ci), .int (bI gd)] (qm dd cI cZ cR cJ sz [(g0, .inr (5, [.int (nI th), .ref qD, .ref qT, .int (nI U), .int (pI le wl), .int wd, .ref qN, .ref qO, .ref qS, .ref qC, .ref qP, .ref qG, .ref qB, .ref qF, .ref qX])), (qD, .inl (cI, 4096, .inl (aN D))), (qN, .inl (cI, 24, .inl (aN (fN nms))))])) (va_Qi (fun (r : Int32) (u : (Nat → Nat) × Nat × Int32) => (r, u.1, u.2.1, u.2.2) = mGd le U (nms ci) gd 32 0 0 D wl wd) (fun u t => qa dd (va_A [(g0, .inr (5, [.int (nI th), .ref qD, .ref qT, .int (nI U), .int (pI le wl), .int wd, .ref qN, .ref qO, .ref qS, .ref qC, .ref qP, .ref qG, .ref qB, .ref qF, .ref qX])), (qD, .inl (cI, 4096, .inl (aN D))), (qN, .inl (cI, 24, .inl (aN (fN nms))))] sz) [(g0, .inr (5, [.int (nI 0), .ref qD, .ref qT, .int (nI U), .int (pI le u.2.1), .int u.2.2, .ref qN, .ref qO, .ref qS, .ref qC, .ref qP, .ref qG, .ref qB, .ref qF, .ref qX])), (qD, .inl (cI, 4096, .inl (aN u.1))), (qN, .inl (cI, 24, .inl (aN (fN nms))))] t) (va_A [(g0, .inr (5, [.int (nI th), .ref qD, .ref qT, .int (nI U), .int (pI le wl), .int wd, .ref qN, .ref qO, .ref qS, .ref qC, .ref qP, .ref qG, .ref qB, .ref qF, .ref qX])), (qD, .inl (cI, 4096, .inl (aN D))), (qN, .inl (cI, 24, .inl (aN (fN nms))))] sz)) 0 0 (va_A [(g0, .inr (5, [.int (nI th), .ref qD, .ref qT, .int (nI U), .int (pI le wl), .int wd, .ref qN, .ref qO, .ref qS, .ref qC, .ref qP, .ref qG, .ref qB, .ref qF, .ref qX])), (qD, .inl (cI, 4096, .inl (aN D))), (qN, .inl (cI, 24, .inl (aN (fN nms))))] sz) := by
  refine mk_mut (cc := cX5_guard) (maxL := 5) (ret := (some .int)) (Qf := fun A => va_Qi (fun (r : Int32) (u : (Nat → Nat) × Nat × Int32) => (r, u.1, u.2.1, u.2.2) = mGd le U (nms ci) gd 32 0 0 D wl wd) (fun u t => qa dd A [(g0, .inr (5, [.int (nI 0), .ref qD, .ref qT, .int (nI U), .int (pI le u.2.1), .int u.2.2, .ref qN, .ref qO, .ref qS, .ref qC, .ref qP, .ref qG, .ref qB, .ref qF, .ref qX])), (qD, .inl (cI, 4096, .inl (aN u.1))), (qN, .inl (cI, 24, .inl (aN (fN nms))))] t) A) (by decide) rfl (Nat.le_of_ble_eq_true rfl) ?_
  intro p e s m below meth c A hx hb hr hts hown hlocks hml hin hP hD hA hS hK ls hl
  have hown : s.vm.findClass RX5 = some m.cls := hown
  have hl : lv_has ls 5 [(0, .ref g0), (1, .int (nI ci)), (2, .int (bI gd))] := hl
  have hf_7 := hts (.fieldLink RX5 7 "RecordSystemModel" "disk" "[I") (by decide +kernel)
  have hin_X5 : ∀ w ∈ wsX50, w ∈ wsX5_guard := by decide +kernel
  refine lv_aload_n hx hb dX5_guard_0 rfl (lv_at hl 0 rfl) ?_
  refine lv_iload_n hx hb dX5_guard_1 rfl (lv_at hl 1 rfl) ?_
  refine cm_i (wc := [(g0, .inr (5, [.int (nI th), .ref qD, .ref qT, .int (nI U), .int (pI le wl), .int wd, .ref qN, .ref qO, .ref qS, .ref qC, .ref qP, .ref qG, .ref qB, .ref qF, .ref qX]))]) (wr := [(qD, .inl (cI, 4096, .inl (aN D))), (qN, .inl (cI, 24, .inl (aN (fN nms))))]) (w1 := fun u : Bool => [(g0, .inr (5, [.int (nI 0), .ref qD, .ref qT, .int (nI U), .int (pI le wl), .int wd, .ref qN, .ref qO, .ref qS, .ref qC, .ref qP, .ref qG, .ref qB, .ref qF, .ref qX]))]) hP hD hS hA [0] [1, 2] rfl rfl (by decide) (by decide) (va_runV (As := [.int (nI ci)]) (rest := []) ⟨hx, hb, hml, hown, hts⟩ (kX5_noControl_ok l dd cI cZ cR cJ g0 th U le wl wd qD qT qN qO qS qC qP qG qB qF qX ci s.heap.size (by omega)) (cwV 1 hts gX5_guard_X5_noControl rfl rfl rfl (by decide +kernel) ⟨Nat.le_of_ble_eq_true rfl, Nat.le_of_ble_eq_true rfl⟩) (pv_m hK hP hD 0 rfl (ci := 5) rfl [0] (by decide) rfl rfl) rfl rfl hl.1 rfl (lv_room (Nat.le_of_ble_eq_true rfl)) dX5_guard_2 ⟨Nat.zero_le _, Nat.zero_le _⟩) (fun r_2 u9 H locs hw hP hD hS => ?_)
  obtain ⟨b_1, rfl⟩ : ∃ z, z = u9 := ⟨_, rfl⟩
  obtain ⟨hr9, hw_3⟩ := hw
  try dsimp only at hr9 hw_3
  subst hr9
  have hP : va_P dd vwCl [(qD, .inl (cI, 4096, .inl (aN D))), (qN, .inl (cI, 24, .inl (aN (fN nms)))), (g0, .inr (5, [.int (nI 0), .ref qD, .ref qT, .int (nI U), .int (pI le wl), .int wd, .ref qN, .ref qO, .ref qS, .ref qC, .ref qP, .ref qG, .ref qB, .ref qF, .ref qX]))] H := hP
  have hD : va_D A [(qD, .inl (cI, 4096, .inl (aN D))), (qN, .inl (cI, 24, .inl (aN (fN nms)))), (g0, .inr (5, [.int (nI 0), .ref qD, .ref qT, .int (nI U), .int (pI le wl), .int wd, .ref qN, .ref qO, .ref qS, .ref qC, .ref qP, .ref qG, .ref qB, .ref qF, .ref qX]))] := hD
  subst hw_3
  refine br_if_eq (tgt := 10) hx hb dX5_guard_5 (by decide) (fun c_5 => ?_) (fun c_5 => absurd c_5 (by decide))
  refine lv_aload_n hx hb dX5_guard_10 rfl (lv_at hl 0 rfl) ?_
  refine lv_iload_n hx hb dX5_guard_11 rfl (lv_at hl 1 rfl) ?_
  refine lv_iconst (v := nI 0) hx hb dX5_guard_12 (by decide) ?_
  refine cr_i (va_runV (As := [.int (nI ci), .int (nI 0)]) (rest := []) ⟨hx, hb, hml, hown, hts⟩ (kX5_many l dd cI cZ cR cJ g0 0 U le wl wd qD qT qN qO qS qC qP qG qB qF qX D nms ci false (by omega) hDb hnb (by omega)) (cwV 2 hts gX5_guard_X5_many rfl rfl rfl (by decide +kernel) ⟨Nat.le_of_ble_eq_true rfl, Nat.le_of_ble_eq_true rfl⟩) (pv_c hK hP 2 rfl (ci := 5) rfl [2, 0, 1] rfl) rfl rfl hl.1 rfl (lv_room (Nat.le_of_ble_eq_true rfl)) dX5_guard_13 ⟨Nat.zero_le _, Nat.zero_le _⟩) ?_
  refine lv_istore_n (lv' := [(3, .int (manI (cnt (ftB D U (nms ci)) 32) false (anyB (hrB D U (nms ci)) 32))), (0, .ref g0), (1, .int (nI ci)), (2, .int (bI gd))]) hx hb dX5_guard_16 rfl hl (by decide) rfl (fun ls hl => ?_)
  refine lv_iconst (v := nI 0) hx hb dX5_guard_17 (by decide) ?_
  refine lv_istore (lv' := [(4, .int (nI 0)), (3, .int (manI (cnt (ftB D U (nms ci)) 32) false (anyB (hrB D U (nms ci)) 32))), (0, .ref g0), (1, .int (nI ci)), (2, .int (bI gd))]) hx hb dX5_guard_18 hl (by decide) rfl (fun ls hl => ?_)
  have loop_4 : ∀ (n k : Nat), k ≤ 32 → 32 + 1 ≤ k + n → ∀ (Dk : Nat → Nat), ∀ (wlk : Nat), ∀ (wdk : Int32), (∀ j, Dk j < 256) → (wlk ≤ 1000) → (∀ j, k ≤ j → j < 32 → ftB Dk U (nms ci) j = ftB D U (nms ci) j) → (mGd le U (nms ci) gd 32 0 0 D wl wd = mGd le U (nms ci) gd (32 - k) k (cnt (ftB D U (nms ci)) k) Dk wlk wdk) → ∀ (H : Heap) (locs : List Loc), va_P dd vwCl [(qD, .inl (cI, 4096, .inl (aN Dk))), (qN, .inl (cI, 24, .inl (aN (fN nms)))), (g0, .inr (5, [.int (nI 0), .ref qD, .ref qT, .int (nI U), .int (pI le wlk), .int wdk, .ref qN, .ref qO, .ref qS, .ref qC, .ref qP, .ref qG, .ref qB, .ref qF, .ref qX]))] H → va_D A [(qD, .inl (cI, 4096, .inl (aN Dk))), (qN, .inl (cI, 24, .inl (aN (fN nms)))), (g0, .inr (5, [.int (nI 0), .ref qD, .ref qT, .int (nI U), .int (pI le wlk), .int wdk, .ref qN, .ref qO, .ref qS, .ref qC, .ref qP, .ref qG, .ref qB, .ref qF, .ref qX]))] → va_S A s.heap H locs → ∀ ls : Array Slot, lv_has ls 5 [(4, .int (nI k)), (3, .int (manI (cnt (ftB D U (nms ci)) 32) false (anyB (hrB D U (nms ci)) 32))), (0, .ref g0), (1, .int (nI ci)), (2, .int (bI gd))] → W p l e (({ frames := 2, cells := 0, slots := 0, locals := 50 } : Room)) s m ([.ref g0, .int (nI ci), .int (bI gd)] : List Value).toArray below meth c H locs 0 0 (MQ below (va_Qi (fun (r : Int32) (u : (Nat → Nat) × Nat × Int32) => (r, u.1, u.2.1, u.2.2) = mGd le U (nms ci) gd 32 0 0 D wl wd) (fun u t => qa dd A [(g0, .inr (5, [.int (nI 0), .ref qD, .ref qT, .int (nI U), .int (pI le u.2.1), .int u.2.2, .ref qN, .ref qO, .ref qS, .ref qC, .ref qP, .ref qG, .ref qB, .ref qF, .ref qX])), (qD, .inl (cI, 4096, .inl (aN u.1))), (qN, .inl (cI, 24, .inl (aN (fN nms))))] t) A) ([.ref g0, .int (nI ci), .int (bI gd)] : List Value).toArray s 0 0 A) (F0 m 20 ls []) := by
    intro n
    induction n with
    | zero => intro k h1 h2; exact absurd h2 (by omega)
    | succ n ih =>
      intro k hk_k hn_k Dk wlk wdk hDk hwk hfit hf H locs hP hD hS ls hl
      have ih_5 := ih
      have hc32 := cnt_le (ftB D U (nms ci)) 32
      refine lv_iload hx hb dX5_guard_20 (lv_at hl 0 rfl) ?_
      refine lv_bipush (v := nI 32) hx hb dX5_guard_22 (by decide) ?_
      refine nr_ge (tgt := 92) hx hb (by omega) (by omega) dX5_guard_24 (by decide) (fun c_24 => ?_) (fun c_24 => ?_)
      · have ek_k : k = 32 := by omega
        subst ek_k
        refine lv_iload_n hx hb dX5_guard_92 rfl (lv_at hl 1 rfl) ?_
        have hP9 := hP.sub (ws' := [(g0, .inr (5, [.int (nI 0), .ref qD, .ref qT, .int (nI U), .int (pI le wlk), .int wdk, .ref qN, .ref qO, .ref qS, .ref qC, .ref qP, .ref qG, .ref qB, .ref qF, .ref qX])), (qD, .inl (cI, 4096, .inl (aN Dk))), (qN, .inl (cI, 24, .inl (aN (fN nms))))]) [2, 0, 1] rfl
        have hD9 := hD.sub (ws' := [(g0, .inr (5, [.int (nI 0), .ref qD, .ref qT, .int (nI U), .int (pI le wlk), .int wdk, .ref qN, .ref qO, .ref qS, .ref qC, .ref qP, .ref qG, .ref qB, .ref qF, .ref qX])), (qD, .inl (cI, 4096, .inl (aN Dk))), (qN, .inl (cI, 24, .inl (aN (fN nms))))]) [2, 0, 1] (by decide) rfl
        exact W.iret (v := (manI (cnt (ftB D U (nms ci)) 32) false (anyB (hrB D U (nms ci)) 32))) hx hb hr (fun t ht hW => ⟨⟨(manI (cnt (ftB D U (nms ci)) 32) false (anyB (hrB D U (nms ci)) 32)), (Dk, wlk, wdk), rfl, by rw [hf, manF]; simp [mGd], by rw [ht]; exact hP9, hD9⟩, hS.F ht⟩) hS.2.2 dX5_guard_93
      · refine lv_aload_n hx hb dX5_guard_27 rfl (lv_at hl 2 rfl) ?_
        refine lv_iload_n hx hb dX5_guard_28 rfl (lv_at hl 3 rfl) ?_
        refine lv_iload hx hb dX5_guard_29 (lv_at hl 0 rfl) ?_
        refine cr_i (va_runV (As := [.int (nI ci), .int (nI k)]) (rest := []) ⟨hx, hb, hml, hown, hts⟩ (kX5_fits l dd cI cZ cR cJ g0 0 U le wlk wdk qD qT qN qO qS qC qP qG qB qF qX Dk nms ci k (by omega) (by omega) hDk hnb (by omega)) (cwV 2 hts gX5_guard_X5_fits rfl rfl rfl (by decide +kernel) ⟨Nat.le_of_ble_eq_true rfl, Nat.le_of_ble_eq_true rfl⟩) (pv_c hK hP 2 rfl (ci := 5) rfl [2, 0, 1] rfl) rfl rfl hl.1 rfl (lv_room (Nat.le_of_ble_eq_true rfl)) dX5_guard_31 ⟨Nat.zero_le _, Nat.zero_le _⟩) ?_
        refine br_if_eq (tgt := 86) hx hb dX5_guard_34 (by decide) (fun c_34 => ?_) (fun c_34 => ?_)
        · refine lv_iinc (v := nI (k + 1)) (lv' := [(4, .int (nI (k + 1))), (3, .int (manI (cnt (ftB D U (nms ci)) 32) false (anyB (hrB D U (nms ci)) 32))), (0, .ref g0), (1, .int (nI ci)), (2, .int (bI gd))]) hx hb dX5_guard_86 hl (k := 0) rfl (nr_inc _ _ (by omega)) (by decide) rfl (fun ls hl => ?_)
          refine lv_goto (tgt := 20) hx hb dX5_guard_89 (by decide) ?_
          exact ih_5 (k + 1) (by omega) (by omega) Dk wlk wdk hDk hwk (fun j h1 h2 => hfit j (by omega) h2) (by rw [hf, mGd_at (by omega), cnt_n ((hfit k (by omega) (by omega)).symm.trans c_34)]; simp [c_34]) _ _ hP hD hS ls (lv_sub hl [0, 1, 2, 3, 4] rfl)
        · refine lv_aload_n hx hb dX5_guard_37 rfl (lv_at hl 2 rfl) ?_
          refine cm_i (wc := [(g0, .inr (5, [.int (nI 0), .ref qD, .ref qT, .int (nI U), .int (pI le wlk), .int wdk, .ref qN, .ref qO, .ref qS, .ref qC, .ref qP, .ref qG, .ref qB, .ref qF, .ref qX]))]) (wr := [(qD, .inl (cI, 4096, .inl (aN Dk))), (qN, .inl (cI, 24, .inl (aN (fN nms))))]) (w1 := fun u : Bool => [(g0, .inr (5, [.int (nI 0), .ref qD, .ref qT, .int (nI U), .int (pI le (wlW le wlk)), .int (wdW le wlk wdk), .ref qN, .ref qO, .ref qS, .ref qC, .ref qP, .ref qG, .ref qB, .ref qF, .ref qX]))]) hP hD hS hA [2] [0, 1] rfl rfl (by decide) (by decide) (va_runV (As := []) (rest := []) ⟨hx, hb, hml, hown, hts⟩ (kX5_canWrite l dd cI cZ cR cJ g0 0 U le wlk wdk qD qT qN qO qS qC qP qG qB qF qX H.size hwk) (cwV 0 hts gX5_guard_X5_canWrite rfl rfl rfl (by decide +kernel) ⟨Nat.le_of_ble_eq_true rfl, Nat.le_of_ble_eq_true rfl⟩) (pv_m hK hP hD 2 rfl (ci := 5) rfl [2] (by decide) rfl rfl) rfl rfl hl.1 rfl (lv_room (Nat.le_of_ble_eq_true rfl)) dX5_guard_38 ⟨Nat.zero_le _, Nat.zero_le _⟩) (fun r_7 u9 H locs hw hP hD hS => ?_)
          obtain ⟨b_6, rfl⟩ : ∃ z, z = u9 := ⟨_, rfl⟩
          obtain ⟨hr9, hw_8⟩ := hw
          try dsimp only at hr9 hw_8
          subst hr9
          have hP : va_P dd vwCl [(qD, .inl (cI, 4096, .inl (aN Dk))), (qN, .inl (cI, 24, .inl (aN (fN nms)))), (g0, .inr (5, [.int (nI 0), .ref qD, .ref qT, .int (nI U), .int (pI le (wlW le wlk)), .int (wdW le wlk wdk), .ref qN, .ref qO, .ref qS, .ref qC, .ref qP, .ref qG, .ref qB, .ref qF, .ref qX]))] H := hP
          have hD : va_D A [(qD, .inl (cI, 4096, .inl (aN Dk))), (qN, .inl (cI, 24, .inl (aN (fN nms)))), (g0, .inr (5, [.int (nI 0), .ref qD, .ref qT, .int (nI U), .int (pI le (wlW le wlk)), .int (wdW le wlk wdk), .ref qN, .ref qO, .ref qS, .ref qC, .ref qP, .ref qG, .ref qB, .ref qF, .ref qX]))] := hD
          refine br_if_ne (tgt := 47) hx hb dX5_guard_41 (by decide) (fun c_41 => ?_) (fun c_41 => ?_)
          · refine lv_aload_n hx hb dX5_guard_47 rfl (lv_at hl 2 rfl) ?_
            refine va_get (D := dd) (ci := 5) (v := .ref qD) (C := RX5) (T := TX5) (N := 15) hx hb hts hin_X5 hown hK.1 hP 2 rfl rfl 1 (by decide) hf_7 (fun _ h9 => h9) rfl dX5_guard_48 ?_
            refine lv_bipush (v := nI 16) hx hb dX5_guard_51 (by decide) ?_
            refine lv_iload hx hb dX5_guard_53 (lv_at hl 0 rfl) ?_
            refine nr_imul (16 * k) (by omega) hx hb dX5_guard_55 ?_
            refine lv_iconst (v := nI 5) hx hb dX5_guard_56 (by decide) ?_
            refine nr_iadd (16 * k + 5) (by omega) hx hb dX5_guard_57 ?_
            refine lv_aload_n hx hb dX5_guard_58 rfl (lv_at hl 2 rfl) ?_
            refine va_get (D := dd) (ci := 5) (v := .ref qD) (C := RX5) (T := TX5) (N := 15) hx hb hts hin_X5 hown hK.1 hP 2 rfl rfl 1 (by decide) hf_7 (fun _ h9 => h9) rfl dX5_guard_59 ?_
            refine lv_bipush (v := nI 16) hx hb dX5_guard_62 (by decide) ?_
            refine lv_iload hx hb dX5_guard_64 (lv_at hl 0 rfl) ?_
            refine nr_imul (16 * k) (by omega) hx hb dX5_guard_66 ?_
            refine lv_iconst (v := nI 5) hx hb dX5_guard_67 (by decide) ?_
            refine nr_iadd (16 * k + 5) (by omega) hx hb dX5_guard_68 ?_
            refine nr_iald (f := Dk) hx hb hK hP 0 rfl (by omega) (by decide) dX5_guard_69 ?_
            have hv_9 := hDk (16 * k + 5)
            refine lv_bipush (v := nI 127) hx hb dX5_guard_70 (by decide) ?_
            refine nr_iand127 (((Dk (16 * k + 5)) % 128)) (by omega) hx hb (by omega) dX5_guard_72 ?_
            refine lv_iload_n hx hb dX5_guard_73 rfl (lv_at hl 4 rfl) ?_
            refine br_if_eq (tgt := 83) hx hb dX5_guard_74 (by decide) (fun c_74 => ?_) (fun c_74 => ?_)
            · refine lv_iconst (v := nI 0) hx hb dX5_guard_83 (by decide) ?_
              refine nr_ior (((Dk (16 * k + 5)) % 128)) (by omega) hx hb (by omega) (by omega) dX5_guard_84 ?_
              refine nr_iast (f := Dk) (v := ((Dk (16 * k + 5)) % 128)) hx hb hK hP hD hS 0 rfl (by omega) (by decide) dX5_guard_85 (fun H locs hP hD hS => ?_)
              have hP : va_P dd vwCl [(qD, .inl (cI, 4096, .inl (aN (va_up Dk (16 * k + 5) ((Dk (16 * k + 5)) % 128))))), (qN, .inl (cI, 24, .inl (aN (fN nms)))), (g0, .inr (5, [.int (nI 0), .ref qD, .ref qT, .int (nI U), .int (pI le (wlW le wlk)), .int (wdW le wlk wdk), .ref qN, .ref qO, .ref qS, .ref qC, .ref qP, .ref qG, .ref qB, .ref qF, .ref qX]))] H := hP
              have hD : va_D A [(qD, .inl (cI, 4096, .inl (aN (va_up Dk (16 * k + 5) ((Dk (16 * k + 5)) % 128))))), (qN, .inl (cI, 24, .inl (aN (fN nms)))), (g0, .inr (5, [.int (nI 0), .ref qD, .ref qT, .int (nI U), .int (pI le (wlW le wlk)), .int (wdW le wlk wdk), .ref qN, .ref qO, .ref qS, .ref qC, .ref qP, .ref qG, .ref qB, .ref qF, .ref qX]))] := hD
              have hu_10 : va_up Dk (16 * k + 5) ((Dk (16 * k + 5)) % 128) = gdD Dk k gd := by rw [← gd_twin]; simp [c_74]
              rw [hu_10] at hP hD
              refine lv_iinc (v := nI (k + 1)) (lv' := [(4, .int (nI (k + 1))), (3, .int (manI (cnt (ftB D U (nms ci)) 32) false (anyB (hrB D U (nms ci)) 32))), (0, .ref g0), (1, .int (nI ci)), (2, .int (bI gd))]) hx hb dX5_guard_86 hl (k := 0) rfl (nr_inc _ _ (by omega)) (by decide) rfl (fun ls hl => ?_)
              refine lv_goto (tgt := 20) hx hb dX5_guard_89 (by decide) ?_
              exact ih_5 (k + 1) (by omega) (by omega) (gdD Dk k gd) (wlW le wlk) (wdW le wlk wdk) (gdD_lt hDk) (wlW_le hwk) (fun j h1 h2 => (ft_row (by omega)).trans (hfit j (by omega) h2)) (by rw [hf, mGd_at (by omega), cnt_y ((hfit k (by omega) (by omega)).symm.trans c_34)]; simp [c_34, (hw_8.symm.trans c_41)]) _ _ hP hD hS ls (lv_sub hl [0, 1, 2, 3, 4] rfl)
            · refine lv_sipush (v := nI 128) hx hb dX5_guard_77 (by decide) ?_
              refine lv_goto (tgt := 84) hx hb dX5_guard_80 (by decide) ?_
              refine nr_ior (((Dk (16 * k + 5)) % 128) + 128) (by omega) hx hb (by omega) (by omega) dX5_guard_84 ?_
              refine nr_iast (f := Dk) (v := ((Dk (16 * k + 5)) % 128) + 128) hx hb hK hP hD hS 0 rfl (by omega) (by decide) dX5_guard_85 (fun H locs hP hD hS => ?_)
              have hP : va_P dd vwCl [(qD, .inl (cI, 4096, .inl (aN (va_up Dk (16 * k + 5) (((Dk (16 * k + 5)) % 128) + 128))))), (qN, .inl (cI, 24, .inl (aN (fN nms)))), (g0, .inr (5, [.int (nI 0), .ref qD, .ref qT, .int (nI U), .int (pI le (wlW le wlk)), .int (wdW le wlk wdk), .ref qN, .ref qO, .ref qS, .ref qC, .ref qP, .ref qG, .ref qB, .ref qF, .ref qX]))] H := hP
              have hD : va_D A [(qD, .inl (cI, 4096, .inl (aN (va_up Dk (16 * k + 5) (((Dk (16 * k + 5)) % 128) + 128))))), (qN, .inl (cI, 24, .inl (aN (fN nms)))), (g0, .inr (5, [.int (nI 0), .ref qD, .ref qT, .int (nI U), .int (pI le (wlW le wlk)), .int (wdW le wlk wdk), .ref qN, .ref qO, .ref qS, .ref qC, .ref qP, .ref qG, .ref qB, .ref qF, .ref qX]))] := hD
              have hu_11 : va_up Dk (16 * k + 5) (((Dk (16 * k + 5)) % 128) + 128) = gdD Dk k gd := by rw [← gd_twin]; simp [c_74]
              rw [hu_11] at hP hD
              refine lv_iinc (v := nI (k + 1)) (lv' := [(4, .int (nI (k + 1))), (3, .int (manI (cnt (ftB D U (nms ci)) 32) false (anyB (hrB D U (nms ci)) 32))), (0, .ref g0), (1, .int (nI ci)), (2, .int (bI gd))]) hx hb dX5_guard_86 hl (k := 0) rfl (nr_inc _ _ (by omega)) (by decide) rfl (fun ls hl => ?_)
              refine lv_goto (tgt := 20) hx hb dX5_guard_89 (by decide) ?_
              exact ih_5 (k + 1) (by omega) (by omega) (gdD Dk k gd) (wlW le wlk) (wdW le wlk wdk) (gdD_lt hDk) (wlW_le hwk) (fun j h1 h2 => (ft_row (by omega)).trans (hfit j (by omega) h2)) (by rw [hf, mGd_at (by omega), cnt_y ((hfit k (by omega) (by omega)).symm.trans c_34)]; simp [c_34, (hw_8.symm.trans c_41)]) _ _ hP hD hS ls (lv_sub hl [0, 1, 2, 3, 4] rfl)
          · refine lv_bipush (v := -9) hx hb dX5_guard_44 (by decide) ?_
            have hP9 := hP.sub (ws' := [(g0, .inr (5, [.int (nI 0), .ref qD, .ref qT, .int (nI U), .int (pI le (wlW le wlk)), .int (wdW le wlk wdk), .ref qN, .ref qO, .ref qS, .ref qC, .ref qP, .ref qG, .ref qB, .ref qF, .ref qX])), (qD, .inl (cI, 4096, .inl (aN Dk))), (qN, .inl (cI, 24, .inl (aN (fN nms))))]) [2, 0, 1] rfl
            have hD9 := hD.sub (ws' := [(g0, .inr (5, [.int (nI 0), .ref qD, .ref qT, .int (nI U), .int (pI le (wlW le wlk)), .int (wdW le wlk wdk), .ref qN, .ref qO, .ref qS, .ref qC, .ref qP, .ref qG, .ref qB, .ref qF, .ref qX])), (qD, .inl (cI, 4096, .inl (aN Dk))), (qN, .inl (cI, 24, .inl (aN (fN nms))))]) [2, 0, 1] (by decide) rfl
            exact W.iret (v := (-9 : Int32)) hx hb hr (fun t ht hW => ⟨⟨(-9 : Int32), (Dk, wlW le wlk, wdW le wlk wdk), rfl, by rw [hf, mGd_at (by omega)]; simp [c_34, (hw_8.symm.trans c_41)], by rw [ht]; exact hP9, hD9⟩, hS.F ht⟩) hS.2.2 dX5_guard_46
  exact loop_4 (32 + 1) 0 (by omega) (by omega) D wl wd hDb hwl (fun _ _ _ => rfl) rfl _ _ hP hD hS ls (lv_sub hl [0, 1, 2, 3, 4] rfl)
