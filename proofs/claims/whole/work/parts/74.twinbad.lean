set_option maxHeartbeats 4000000 in
set_option maxRecDepth 100000 in
theorem kX5_open_b1 (l : Launch) (dd : va_G) (cI cZ cR cJ : ClassId) (g0 : Nat) (th : Nat) (U : Nat) (le : Bool) (wl : Nat) (wd : Int32) (qD : Nat) (qT : Nat) (qN : Nat) (qO : Nat) (qS : Nat) (qC : Nat) (qP : Nat) (qG : Nat) (qB : Nat) (qF : Nat) (qX : Nat) (x : Int32) (sz : Nat) (hbad : x < 0 ∨ ¬ x ≤ nI 3) : Met l yX5_open wsX5_open ({ frames := 1, cells := 0, slots := 0, locals := 21 }) (va_Pc [.ref g0, .int x] (qm dd cI cZ cR cJ sz [(g0, .inr (5, [.int (nI th), .ref qD, .ref qT, .int (nI U), .int (pI le wl), .int wd, .ref qN, .ref qO, .ref qS, .ref qC, .ref qP, .ref qG, .ref qB, .ref qF, .ref qX]))])) (va_Qi (fun (r : Int32) (u : Unit) => True) (fun u t => qa dd (va_A [(g0, .inr (5, [.int (nI th), .ref qD, .ref qT, .int (nI U), .int (pI le wl), .int wd, .ref qN, .ref qO, .ref qS, .ref qC, .ref qP, .ref qG, .ref qB, .ref qF, .ref qX]))] sz) [(g0, .inr (5, [.int (nI 1), .ref qD, .ref qT, .int (nI U), .int (pI le wl), .int wd, .ref qN, .ref qO, .ref qS, .ref qC, .ref qP, .ref qG, .ref qB, .ref qF, .ref qX]))] t) (va_A [(g0, .inr (5, [.int (nI th), .ref qD, .ref qT, .int (nI U), .int (pI le wl), .int wd, .ref qN, .ref qO, .ref qS, .ref qC, .ref qP, .ref qG, .ref qB, .ref qF, .ref qX]))] sz)) 0 0 (va_A [(g0, .inr (5, [.int (nI th), .ref qD, .ref qT, .int (nI U), .int (pI le wl), .int wd, .ref qN, .ref qO, .ref qS, .ref qC, .ref qP, .ref qG, .ref qB, .ref qF, .ref qX]))] sz) := by
  refine mk_mut (cc := cX5_open) (maxL := 3) (ret := (some .int)) (Qf := fun A => va_Qi (fun (r : Int32) (u : Unit) => True) (fun u t => qa dd A [(g0, .inr (5, [.int (nI 1), .ref qD, .ref qT, .int (nI U), .int (pI le wl), .int wd, .ref qN, .ref qO, .ref qS, .ref qC, .ref qP, .ref qG, .ref qB, .ref qF, .ref qX]))] t) A) (by decide) rfl (Nat.le_of_ble_eq_true rfl) ?_
  intro p e s m below meth c A hx hb hr hts hown hlocks hml hin hP hD hA hS hK ls hl
  have hown : s.vm.findClass RX5 = some m.cls := hown
  have hl : lv_has ls 3 [(0, .ref g0), (1, .int x)] := hl
  refine lv_aload_n hx hb dX5_open_0 rfl (lv_at hl 0 rfl) ?_
  refine lv_iload_n hx hb dX5_open_1 rfl (lv_at hl 1 rfl) ?_
  refine cm_i (wc := [(g0, .inr (5, [.int (nI th), .ref qD, .ref qT, .int (nI U), .int (pI le wl), .int wd, .ref qN, .ref qO, .ref qS, .ref qC, .ref qP, .ref qG, .ref qB, .ref qF, .ref qX]))]) (wr := []) (w1 := fun u : Bool => [(g0, .inr (5, [.int (nI 1), .ref qD, .ref qT, .int (nI U), .int (pI le wl), .int wd, .ref qN, .ref qO, .ref qS, .ref qC, .ref qP, .ref qG, .ref qB, .ref qF, .ref qX]))]) hP hD hS hA [0] [] rfl rfl (by decide) (by decide) (va_runV (As := [.int x]) (rest := []) ⟨hx, hb, hml, hown, hts⟩ (kX5_noControl_bad l dd cI cZ cR cJ g0 th U le wl wd qD qT qN qO qS qC qP qG qB qF qX x s.heap.size hbad) (cwV 1 hts gX5_open_X5_noControl rfl rfl rfl (by decide +kernel) ⟨Nat.le_of_ble_eq_true rfl, Nat.le_of_ble_eq_true rfl⟩) (pv_m hK hP hD 0 rfl (ci := 5) rfl [0] (by decide) rfl rfl) rfl rfl hl.1 rfl (lv_room (Nat.le_of_ble_eq_true rfl)) dX5_open_2 ⟨Nat.zero_le _, Nat.zero_le _⟩) (fun r_2 u9 H locs hw hP hD hS => ?_)
  obtain ⟨b_1, rfl⟩ : ∃ z, z = u9 := ⟨_, rfl⟩
  obtain ⟨hr9, hw_3⟩ := hw
  try dsimp only at hr9 hw_3
  subst hr9
  have hP : va_P dd vwCl [(g0, .inr (5, [.int (nI 1), .ref qD, .ref qT, .int (nI U), .int (pI le wl), .int wd, .ref qN, .ref qO, .ref qS, .ref qC, .ref qP, .ref qG, .ref qB, .ref qF, .ref qX]))] H := hP
  have hD : va_D A [(g0, .inr (5, [.int (nI 1), .ref qD, .ref qT, .int (nI U), .int (pI le wl), .int wd, .ref qN, .ref qO, .ref qS, .ref qC, .ref qP, .ref qG, .ref qB, .ref qF, .ref qX]))] := hD
  subst hw_3
  refine br_if_eq (tgt := 10) hx hb dX5_open_5 (by decide) (fun c_5 => absurd c_5 (by decide)) (fun c_5 => ?_)
  refine lv_iconst (v := nI 0) hx hb dX5_open_8 (by decide) ?_
  have hP9 := hP.sub (ws' := [(g0, .inr (5, [.int (nI 1), .ref qD, .ref qT, .int (nI U), .int (pI le wl), .int wd, .ref qN, .ref qO, .ref qS, .ref qC, .ref qP, .ref qG, .ref qB, .ref qF, .ref qX]))]) [0] rfl
  have hD9 := hD.sub (ws' := [(g0, .inr (5, [.int (nI 1), .ref qD, .ref qT, .int (nI U), .int (pI le wl), .int wd, .ref qN, .ref qO, .ref qS, .ref qC, .ref qP, .ref qG, .ref qB, .ref qF, .ref qX]))]) [0] (by decide) rfl
  exact W.iret (v := nI 0) hx hb hr (fun t ht hW => ⟨⟨nI 0, (), rfl, trivial, by rw [ht]; exact hP9, hD9⟩, hS.F ht⟩) hS.2.2 dX5_open_9

set_option maxHeartbeats 4000000 in
set_option maxRecDepth 100000 in
theorem kX5_make_b1 (l : Launch) (dd : va_G) (cI cZ cR cJ : ClassId) (g0 : Nat) (th : Nat) (U : Nat) (le : Bool) (wl : Nat) (wd : Int32) (qD : Nat) (qT : Nat) (qN : Nat) (qO : Nat) (qS : Nat) (qC : Nat) (qP : Nat) (qG : Nat) (qB : Nat) (qF : Nat) (qX : Nat) (x : Int32) (sz : Nat) (hbad : x < 0 ∨ ¬ x ≤ nI 3) : Met l yX5_make wsX5_make ({ frames := 1, cells := 0, slots := 0, locals := 21 }) (va_Pc [.ref g0, .int x] (qm dd cI cZ cR cJ sz [(g0, .inr (5, [.int (nI th), .ref qD, .ref qT, .int (nI U), .int (pI le wl), .int wd, .ref qN, .ref qO, .ref qS, .ref qC, .ref qP, .ref qG, .ref qB, .ref qF, .ref qX]))])) (va_Qi (fun (r : Int32) (u : Unit) => True) (fun u t => qa dd (va_A [(g0, .inr (5, [.int (nI th), .ref qD, .ref qT, .int (nI U), .int (pI le wl), .int wd, .ref qN, .ref qO, .ref qS, .ref qC, .ref qP, .ref qG, .ref qB, .ref qF, .ref qX]))] sz) [(g0, .inr (5, [.int (nI 1), .ref qD, .ref qT, .int (nI U), .int (pI le wl), .int wd, .ref qN, .ref qO, .ref qS, .ref qC, .ref qP, .ref qG, .ref qB, .ref qF, .ref qX]))] t) (va_A [(g0, .inr (5, [.int (nI th), .ref qD, .ref qT, .int (nI U), .int (pI le wl), .int wd, .ref qN, .ref qO, .ref qS, .ref qC, .ref qP, .ref qG, .ref qB, .ref qF, .ref qX]))] sz)) 0 0 (va_A [(g0, .inr (5, [.int (nI th), .ref qD, .ref qT, .int (nI U), .int (pI le wl), .int wd, .ref qN, .ref qO, .ref qS, .ref qC, .ref qP, .ref qG, .ref qB, .ref qF, .ref qX]))] sz) := by
  refine mk_mut (cc := cX5_make) (maxL := 3) (ret := (some .int)) (Qf := fun A => va_Qi (fun (r : Int32) (u : Unit) => True) (fun u t => qa dd A [(g0, .inr (5, [.int (nI 1), .ref qD, .ref qT, .int (nI U), .int (pI le wl), .int wd, .ref qN, .ref qO, .ref qS, .ref qC, .ref qP, .ref qG, .ref qB, .ref qF, .ref qX]))] t) A) (by decide) rfl (Nat.le_of_ble_eq_true rfl) ?_
  intro p e s m below meth c A hx hb hr hts hown hlocks hml hin hP hD hA hS hK ls hl
  have hown : s.vm.findClass RX5 = some m.cls := hown
  have hl : lv_has ls 3 [(0, .ref g0), (1, .int x)] := hl
  refine lv_aload_n hx hb dX5_make_0 rfl (lv_at hl 0 rfl) ?_
  refine lv_iload_n hx hb dX5_make_1 rfl (lv_at hl 1 rfl) ?_
  refine cm_i (wc := [(g0, .inr (5, [.int (nI th), .ref qD, .ref qT, .int (nI U), .int (pI le wl), .int wd, .ref qN, .ref qO, .ref qS, .ref qC, .ref qP, .ref qG, .ref qB, .ref qF, .ref qX]))]) (wr := []) (w1 := fun u : Bool => [(g0, .inr (5, [.int (nI 1), .ref qD, .ref qT, .int (nI U), .int (pI le wl), .int wd, .ref qN, .ref qO, .ref qS, .ref qC, .ref qP, .ref qG, .ref qB, .ref qF, .ref qX]))]) hP hD hS hA [0] [] rfl rfl (by decide) (by decide) (va_runV (As := [.int x]) (rest := []) ⟨hx, hb, hml, hown, hts⟩ (kX5_noControl_bad l dd cI cZ cR cJ g0 th U le wl wd qD qT qN qO qS qC qP qG qB qF qX x s.heap.size hbad) (cwV 1 hts gX5_make_X5_noControl rfl rfl rfl (by decide +kernel) ⟨Nat.le_of_ble_eq_true rfl, Nat.le_of_ble_eq_true rfl⟩) (pv_m hK hP hD 0 rfl (ci := 5) rfl [0] (by decide) rfl rfl) rfl rfl hl.1 rfl (lv_room (Nat.le_of_ble_eq_true rfl)) dX5_make_2 ⟨Nat.zero_le _, Nat.zero_le _⟩) (fun r_2 u9 H locs hw hP hD hS => ?_)
  obtain ⟨b_1, rfl⟩ : ∃ z, z = u9 := ⟨_, rfl⟩
  obtain ⟨hr9, hw_3⟩ := hw
  try dsimp only at hr9 hw_3
  subst hr9
  have hP : va_P dd vwCl [(g0, .inr (5, [.int (nI 1), .ref qD, .ref qT, .int (nI U), .int (pI le wl), .int wd, .ref qN, .ref qO, .ref qS, .ref qC, .ref qP, .ref qG, .ref qB, .ref qF, .ref qX]))] H := hP
  have hD : va_D A [(g0, .inr (5, [.int (nI 1), .ref qD, .ref qT, .int (nI U), .int (pI le wl), .int wd, .ref qN, .ref qO, .ref qS, .ref qC, .ref qP, .ref qG, .ref qB, .ref qF, .ref qX]))] := hD
  subst hw_3
  refine br_if_eq (tgt := 10) hx hb dX5_make_5 (by decide) (fun c_5 => absurd c_5 (by decide)) (fun c_5 => ?_)
  refine lv_iconst (v := nI 0) hx hb dX5_make_8 (by decide) ?_
  have hP9 := hP.sub (ws' := [(g0, .inr (5, [.int (nI 1), .ref qD, .ref qT, .int (nI U), .int (pI le wl), .int wd, .ref qN, .ref qO, .ref qS, .ref qC, .ref qP, .ref qG, .ref qB, .ref qF, .ref qX]))]) [0] rfl
  have hD9 := hD.sub (ws' := [(g0, .inr (5, [.int (nI 1), .ref qD, .ref qT, .int (nI U), .int (pI le wl), .int wd, .ref qN, .ref qO, .ref qS, .ref qC, .ref qP, .ref qG, .ref qB, .ref qF, .ref qX]))]) [0] (by decide) rfl
  exact W.iret (v := nI 0) hx hb hr (fun t ht hW => ⟨⟨nI 0, (), rfl, trivial, by rw [ht]; exact hP9, hD9⟩, hS.F ht⟩) hS.2.2 dX5_make_9

set_option maxHeartbeats 4000000 in
set_option maxRecDepth 100000 in
theorem kX5_close_b1 (l : Launch) (dd : va_G) (cI cZ cR cJ : ClassId) (g0 : Nat) (th : Nat) (U : Nat) (le : Bool) (wl : Nat) (wd : Int32) (qD : Nat) (qT : Nat) (qN : Nat) (qO : Nat) (qS : Nat) (qC : Nat) (qP : Nat) (qG : Nat) (qB : Nat) (qF : Nat) (qX : Nat) (x : Int32) (sz : Nat) (hbad : x < 0 ∨ ¬ x ≤ nI 3) : Met l yX5_close wsX5_close ({ frames := 1, cells := 0, slots := 0, locals := 21 }) (va_Pc [.ref g0, .int x] (qm dd cI cZ cR cJ sz [(g0, .inr (5, [.int (nI th), .ref qD, .ref qT, .int (nI U), .int (pI le wl), .int wd, .ref qN, .ref qO, .ref qS, .ref qC, .ref qP, .ref qG, .ref qB, .ref qF, .ref qX]))])) (va_Qi (fun (r : Int32) (u : Unit) => True) (fun u t => qa dd (va_A [(g0, .inr (5, [.int (nI th), .ref qD, .ref qT, .int (nI U), .int (pI le wl), .int wd, .ref qN, .ref qO, .ref qS, .ref qC, .ref qP, .ref qG, .ref qB, .ref qF, .ref qX]))] sz) [(g0, .inr (5, [.int (nI 1), .ref qD, .ref qT, .int (nI U), .int (pI le wl), .int wd, .ref qN, .ref qO, .ref qS, .ref qC, .ref qP, .ref qG, .ref qB, .ref qF, .ref qX]))] t) (va_A [(g0, .inr (5, [.int (nI th), .ref qD, .ref qT, .int (nI U), .int (pI le wl), .int wd, .ref qN, .ref qO, .ref qS, .ref qC, .ref qP, .ref qG, .ref qB, .ref qF, .ref qX]))] sz)) 0 0 (va_A [(g0, .inr (5, [.int (nI th), .ref qD, .ref qT, .int (nI U), .int (pI le wl), .int wd, .ref qN, .ref qO, .ref qS, .ref qC, .ref qP, .ref qG, .ref qB, .ref qF, .ref qX]))] sz) := by
  refine mk_mut (cc := cX5_close) (maxL := 2) (ret := (some .int)) (Qf := fun A => va_Qi (fun (r : Int32) (u : Unit) => True) (fun u t => qa dd A [(g0, .inr (5, [.int (nI 1), .ref qD, .ref qT, .int (nI U), .int (pI le wl), .int wd, .ref qN, .ref qO, .ref qS, .ref qC, .ref qP, .ref qG, .ref qB, .ref qF, .ref qX]))] t) A) (by decide) rfl (Nat.le_of_ble_eq_true rfl) ?_
  intro p e s m below meth c A hx hb hr hts hown hlocks hml hin hP hD hA hS hK ls hl
  have hown : s.vm.findClass RX5 = some m.cls := hown
  have hl : lv_has ls 2 [(0, .ref g0), (1, .int x)] := hl
  refine lv_aload_n hx hb dX5_close_0 rfl (lv_at hl 0 rfl) ?_
  refine lv_iload_n hx hb dX5_close_1 rfl (lv_at hl 1 rfl) ?_
  refine cm_i (wc := [(g0, .inr (5, [.int (nI th), .ref qD, .ref qT, .int (nI U), .int (pI le wl), .int wd, .ref qN, .ref qO, .ref qS, .ref qC, .ref qP, .ref qG, .ref qB, .ref qF, .ref qX]))]) (wr := []) (w1 := fun u : Bool => [(g0, .inr (5, [.int (nI 1), .ref qD, .ref qT, .int (nI U), .int (pI le wl), .int wd, .ref qN, .ref qO, .ref qS, .ref qC, .ref qP, .ref qG, .ref qB, .ref qF, .ref qX]))]) hP hD hS hA [0] [] rfl rfl (by decide) (by decide) (va_runV (As := [.int x]) (rest := []) ⟨hx, hb, hml, hown, hts⟩ (kX5_noControl_bad l dd cI cZ cR cJ g0 th U le wl wd qD qT qN qO qS qC qP qG qB qF qX x s.heap.size hbad) (cwV 1 hts gX5_close_X5_noControl rfl rfl rfl (by decide +kernel) ⟨Nat.le_of_ble_eq_true rfl, Nat.le_of_ble_eq_true rfl⟩) (pv_m hK hP hD 0 rfl (ci := 5) rfl [0] (by decide) rfl rfl) rfl rfl hl.1 rfl (lv_room (Nat.le_of_ble_eq_true rfl)) dX5_close_2 ⟨Nat.zero_le _, Nat.zero_le _⟩) (fun r_2 u9 H locs hw hP hD hS => ?_)
  obtain ⟨b_1, rfl⟩ : ∃ z, z = u9 := ⟨_, rfl⟩
  obtain ⟨hr9, hw_3⟩ := hw
  try dsimp only at hr9 hw_3
  subst hr9
  have hP : va_P dd vwCl [(g0, .inr (5, [.int (nI 1), .ref qD, .ref qT, .int (nI U), .int (pI le wl), .int wd, .ref qN, .ref qO, .ref qS, .ref qC, .ref qP, .ref qG, .ref qB, .ref qF, .ref qX]))] H := hP
  have hD : va_D A [(g0, .inr (5, [.int (nI 1), .ref qD, .ref qT, .int (nI U), .int (pI le wl), .int wd, .ref qN, .ref qO, .ref qS, .ref qC, .ref qP, .ref qG, .ref qB, .ref qF, .ref qX]))] := hD
  subst hw_3
  refine br_if_eq (tgt := 10) hx hb dX5_close_5 (by decide) (fun c_5 => absurd c_5 (by decide)) (fun c_5 => ?_)
  refine lv_iconst (v := nI 0) hx hb dX5_close_8 (by decide) ?_
  have hP9 := hP.sub (ws' := [(g0, .inr (5, [.int (nI 1), .ref qD, .ref qT, .int (nI U), .int (pI le wl), .int wd, .ref qN, .ref qO, .ref qS, .ref qC, .ref qP, .ref qG, .ref qB, .ref qF, .ref qX]))]) [0] rfl
  have hD9 := hD.sub (ws' := [(g0, .inr (5, [.int (nI 1), .ref qD, .ref qT, .int (nI U), .int (pI le wl), .int wd, .ref qN, .ref qO, .ref qS, .ref qC, .ref qP, .ref qG, .ref qB, .ref qF, .ref qX]))]) [0] (by decide) rfl
  exact W.iret (v := nI 0) hx hb hr (fun t ht hW => ⟨⟨nI 0, (), rfl, trivial, by rw [ht]; exact hP9, hD9⟩, hS.F ht⟩) hS.2.2 dX5_close_9

set_option maxHeartbeats 4000000 in
set_option maxRecDepth 100000 in
theorem kX5_erase_b1 (l : Launch) (dd : va_G) (cI cZ cR cJ : ClassId) (g0 : Nat) (th : Nat) (U : Nat) (le : Bool) (wl : Nat) (wd : Int32) (qD : Nat) (qT : Nat) (qN : Nat) (qO : Nat) (qS : Nat) (qC : Nat) (qP : Nat) (qG : Nat) (qB : Nat) (qF : Nat) (qX : Nat) (x : Int32) (sz : Nat) (hbad : x < 0 ∨ ¬ x ≤ nI 3) : Met l yX5_erase wsX5_erase ({ frames := 1, cells := 0, slots := 0, locals := 21 }) (va_Pc [.ref g0, .int x] (qm dd cI cZ cR cJ sz [(g0, .inr (5, [.int (nI th), .ref qD, .ref qT, .int (nI U), .int (pI le wl), .int wd, .ref qN, .ref qO, .ref qS, .ref qC, .ref qP, .ref qG, .ref qB, .ref qF, .ref qX]))])) (va_Qi (fun (r : Int32) (u : Unit) => True) (fun u t => qa dd (va_A [(g0, .inr (5, [.int (nI th), .ref qD, .ref qT, .int (nI U), .int (pI le wl), .int wd, .ref qN, .ref qO, .ref qS, .ref qC, .ref qP, .ref qG, .ref qB, .ref qF, .ref qX]))] sz) [(g0, .inr (5, [.int (nI 1), .ref qD, .ref qT, .int (nI U), .int (pI le wl), .int wd, .ref qN, .ref qO, .ref qS, .ref qC, .ref qP, .ref qG, .ref qB, .ref qF, .ref qX]))] t) (va_A [(g0, .inr (5, [.int (nI th), .ref qD, .ref qT, .int (nI U), .int (pI le wl), .int wd, .ref qN, .ref qO, .ref qS, .ref qC, .ref qP, .ref qG, .ref qB, .ref qF, .ref qX]))] sz)) 0 0 (va_A [(g0, .inr (5, [.int (nI th), .ref qD, .ref qT, .int (nI U), .int (pI le wl), .int wd, .ref qN, .ref qO, .ref qS, .ref qC, .ref qP, .ref qG, .ref qB, .ref qF, .ref qX]))] sz) := by
  refine mk_mut (cc := cX5_erase) (maxL := 6) (ret := (some .int)) (Qf := fun A => va_Qi (fun (r : Int32) (u : Unit) => True) (fun u t => qa dd A [(g0, .inr (5, [.int (nI 1), .ref qD, .ref qT, .int (nI U), .int (pI le wl), .int wd, .ref qN, .ref qO, .ref qS, .ref qC, .ref qP, .ref qG, .ref qB, .ref qF, .ref qX]))] t) A) (by decide) rfl (Nat.le_of_ble_eq_true rfl) ?_
  intro p e s m below meth c A hx hb hr hts hown hlocks hml hin hP hD hA hS hK ls hl
  have hown : s.vm.findClass RX5 = some m.cls := hown
  have hl : lv_has ls 6 [(0, .ref g0), (1, .int x)] := hl
  refine lv_aload_n hx hb dX5_erase_0 rfl (lv_at hl 0 rfl) ?_
  refine lv_iload_n hx hb dX5_erase_1 rfl (lv_at hl 1 rfl) ?_
  refine cm_i (wc := [(g0, .inr (5, [.int (nI th), .ref qD, .ref qT, .int (nI U), .int (pI le wl), .int wd, .ref qN, .ref qO, .ref qS, .ref qC, .ref qP, .ref qG, .ref qB, .ref qF, .ref qX]))]) (wr := []) (w1 := fun u : Bool => [(g0, .inr (5, [.int (nI 1), .ref qD, .ref qT, .int (nI U), .int (pI le wl), .int wd, .ref qN, .ref qO, .ref qS, .ref qC, .ref qP, .ref qG, .ref qB, .ref qF, .ref qX]))]) hP hD hS hA [0] [] rfl rfl (by decide) (by decide) (va_runV (As := [.int x]) (rest := []) ⟨hx, hb, hml, hown, hts⟩ (kX5_noControl_bad l dd cI cZ cR cJ g0 th U le wl wd qD qT qN qO qS qC qP qG qB qF qX x s.heap.size hbad) (cwV 1 hts gX5_erase_X5_noControl rfl rfl rfl (by decide +kernel) ⟨Nat.le_of_ble_eq_true rfl, Nat.le_of_ble_eq_true rfl⟩) (pv_m hK hP hD 0 rfl (ci := 5) rfl [0] (by decide) rfl rfl) rfl rfl hl.1 rfl (lv_room (Nat.le_of_ble_eq_true rfl)) dX5_erase_2 ⟨Nat.zero_le _, Nat.zero_le _⟩) (fun r_2 u9 H locs hw hP hD hS => ?_)
  obtain ⟨b_1, rfl⟩ : ∃ z, z = u9 := ⟨_, rfl⟩
  obtain ⟨hr9, hw_3⟩ := hw
  try dsimp only at hr9 hw_3
  subst hr9
  have hP : va_P dd vwCl [(g0, .inr (5, [.int (nI 1), .ref qD, .ref qT, .int (nI U), .int (pI le wl), .int wd, .ref qN, .ref qO, .ref qS, .ref qC, .ref qP, .ref qG, .ref qB, .ref qF, .ref qX]))] H := hP
  have hD : va_D A [(g0, .inr (5, [.int (nI 1), .ref qD, .ref qT, .int (nI U), .int (pI le wl), .int wd, .ref qN, .ref qO, .ref qS, .ref qC, .ref qP, .ref qG, .ref qB, .ref qF, .ref qX]))] := hD
  subst hw_3
  refine br_if_eq (tgt := 10) hx hb dX5_erase_5 (by decide) (fun c_5 => absurd c_5 (by decide)) (fun c_5 => ?_)
  refine lv_iconst (v := nI 0) hx hb dX5_erase_8 (by decide) ?_
  have hP9 := hP.sub (ws' := [(g0, .inr (5, [.int (nI 1), .ref qD, .ref qT, .int (nI U), .int (pI le wl), .int wd, .ref qN, .ref qO, .ref qS, .ref qC, .ref qP, .ref qG, .ref qB, .ref qF, .ref qX]))]) [0] rfl
  have hD9 := hD.sub (ws' := [(g0, .inr (5, [.int (nI 1), .ref qD, .ref qT, .int (nI U), .int (pI le wl), .int wd, .ref qN, .ref qO, .ref qS, .ref qC, .ref qP, .ref qG, .ref qB, .ref qF, .ref qX]))]) [0] (by decide) rfl
  exact W.iret (v := nI 0) hx hb hr (fun t ht hW => ⟨⟨nI 0, (), rfl, trivial, by rw [ht]; exact hP9, hD9⟩, hS.F ht⟩) hS.2.2 dX5_erase_9

set_option maxHeartbeats 4000000 in
set_option maxRecDepth 100000 in
theorem kX5_guard_b1 (l : Launch) (dd : va_G) (cI cZ cR cJ : ClassId) (g0 : Nat) (th : Nat) (U : Nat) (le : Bool) (wl : Nat) (wd : Int32) (qD : Nat) (qT : Nat) (qN : Nat) (qO : Nat) (qS : Nat) (qC : Nat) (qP : Nat) (qG : Nat) (qB : Nat) (qF : Nat) (qX : Nat) (x : Int32) (gd : Bool) (sz : Nat) (hbad : x < 0 ∨ ¬ x ≤ nI 3) : Met l yX5_guard wsX5_guard ({ frames := 1, cells := 0, slots := 0, locals := 21 }) (va_Pc [.ref g0, .int x, .int (bI gd)] (qm dd cI cZ cR cJ sz [(g0, .inr (5, [.int (nI th), .ref qD, .ref qT, .int (nI U), .int (pI le wl), .int wd, .ref qN, .ref qO, .ref qS, .ref qC, .ref qP, .ref qG, .ref qB, .ref qF, .ref qX]))])) (va_Qi (fun (r : Int32) (u : Unit) => True) (fun u t => qa dd (va_A [(g0, .inr (5, [.int (nI th), .ref qD, .ref qT, .int (nI U), .int (pI le wl), .int wd, .ref qN, .ref qO, .ref qS, .ref qC, .ref qP, .ref qG, .ref qB, .ref qF, .ref qX]))] sz) [(g0, .inr (5, [.int (nI 1), .ref qD, .ref qT, .int (nI U), .int (pI le wl), .int wd, .ref qN, .ref qO, .ref qS, .ref qC, .ref qP, .ref qG, .ref qB, .ref qF, .ref qX]))] t) (va_A [(g0, .inr (5, [.int (nI th), .ref qD, .ref qT, .int (nI U), .int (pI le wl), .int wd, .ref qN, .ref qO, .ref qS, .ref qC, .ref qP, .ref qG, .ref qB, .ref qF, .ref qX]))] sz)) 0 0 (va_A [(g0, .inr (5, [.int (nI th), .ref qD, .ref qT, .int (nI U), .int (pI le wl), .int wd, .ref qN, .ref qO, .ref qS, .ref qC, .ref qP, .ref qG, .ref qB, .ref qF, .ref qX]))] sz) := by
  refine mk_mut (cc := cX5_guard) (maxL := 5) (ret := (some .int)) (Qf := fun A => va_Qi (fun (r : Int32) (u : Unit) => True) (fun u t => qa dd A [(g0, .inr (5, [.int (nI 1), .ref qD, .ref qT, .int (nI U), .int (pI le wl), .int wd, .ref qN, .ref qO, .ref qS, .ref qC, .ref qP, .ref qG, .ref qB, .ref qF, .ref qX]))] t) A) (by decide) rfl (Nat.le_of_ble_eq_true rfl) ?_
  intro p e s m below meth c A hx hb hr hts hown hlocks hml hin hP hD hA hS hK ls hl
  have hown : s.vm.findClass RX5 = some m.cls := hown
  have hl : lv_has ls 5 [(0, .ref g0), (1, .int x), (2, .int (bI gd))] := hl
  refine lv_aload_n hx hb dX5_guard_0 rfl (lv_at hl 0 rfl) ?_
  refine lv_iload_n hx hb dX5_guard_1 rfl (lv_at hl 1 rfl) ?_
  refine cm_i (wc := [(g0, .inr (5, [.int (nI th), .ref qD, .ref qT, .int (nI U), .int (pI le wl), .int wd, .ref qN, .ref qO, .ref qS, .ref qC, .ref qP, .ref qG, .ref qB, .ref qF, .ref qX]))]) (wr := []) (w1 := fun u : Bool => [(g0, .inr (5, [.int (nI 1), .ref qD, .ref qT, .int (nI U), .int (pI le wl), .int wd, .ref qN, .ref qO, .ref qS, .ref qC, .ref qP, .ref qG, .ref qB, .ref qF, .ref qX]))]) hP hD hS hA [0] [] rfl rfl (by decide) (by decide) (va_runV (As := [.int x]) (rest := []) ⟨hx, hb, hml, hown, hts⟩ (kX5_noControl_bad l dd cI cZ cR cJ g0 th U le wl wd qD qT qN qO qS qC qP qG qB qF qX x s.heap.size hbad) (cwV 1 hts gX5_guard_X5_noControl rfl rfl rfl (by decide +kernel) ⟨Nat.le_of_ble_eq_true rfl, Nat.le_of_ble_eq_true rfl⟩) (pv_m hK hP hD 0 rfl (ci := 5) rfl [0] (by decide) rfl rfl) rfl rfl hl.1 rfl (lv_room (Nat.le_of_ble_eq_true rfl)) dX5_guard_2 ⟨Nat.zero_le _, Nat.zero_le _⟩) (fun r_2 u9 H locs hw hP hD hS => ?_)
  obtain ⟨b_1, rfl⟩ : ∃ z, z = u9 := ⟨_, rfl⟩
  obtain ⟨hr9, hw_3⟩ := hw
  try dsimp only at hr9 hw_3
  subst hr9
  have hP : va_P dd vwCl [(g0, .inr (5, [.int (nI 1), .ref qD, .ref qT, .int (nI U), .int (pI le wl), .int wd, .ref qN, .ref qO, .ref qS, .ref qC, .ref qP, .ref qG, .ref qB, .ref qF, .ref qX]))] H := hP
  have hD : va_D A [(g0, .inr (5, [.int (nI 1), .ref qD, .ref qT, .int (nI U), .int (pI le wl), .int wd, .ref qN, .ref qO, .ref qS, .ref qC, .ref qP, .ref qG, .ref qB, .ref qF, .ref qX]))] := hD
  subst hw_3
  refine br_if_eq (tgt := 10) hx hb dX5_guard_5 (by decide) (fun c_5 => absurd c_5 (by decide)) (fun c_5 => ?_)
  refine lv_iconst (v := nI 0) hx hb dX5_guard_8 (by decide) ?_
  have hP9 := hP.sub (ws' := [(g0, .inr (5, [.int (nI 1), .ref qD, .ref qT, .int (nI U), .int (pI le wl), .int wd, .ref qN, .ref qO, .ref qS, .ref qC, .ref qP, .ref qG, .ref qB, .ref qF, .ref qX]))]) [0] rfl
  have hD9 := hD.sub (ws' := [(g0, .inr (5, [.int (nI 1), .ref qD, .ref qT, .int (nI U), .int (pI le wl), .int wd, .ref qN, .ref qO, .ref qS, .ref qC, .ref qP, .ref qG, .ref qB, .ref qF, .ref qX]))]) [0] (by decide) rfl
  exact W.iret (v := nI 0) hx hb hr (fun t ht hW => ⟨⟨nI 0, (), rfl, trivial, by rw [ht]; exact hP9, hD9⟩, hS.F ht⟩) hS.2.2 dX5_guard_9

set_option maxHeartbeats 4000000 in
set_option maxRecDepth 100000 in
theorem kX5_size_b1 (l : Launch) (dd : va_G) (cI cZ cR cJ : ClassId) (g0 : Nat) (th : Nat) (U : Nat) (le : Bool) (wl : Nat) (wd : Int32) (qD : Nat) (qT : Nat) (qN : Nat) (qO : Nat) (qS : Nat) (qC : Nat) (qP : Nat) (qG : Nat) (qB : Nat) (qF : Nat) (qX : Nat) (x : Int32) (sz : Nat) (hbad : x < 0 ∨ ¬ x ≤ nI 3) : Met l yX5_size wsX5_size ({ frames := 1, cells := 0, slots := 0, locals := 21 }) (va_Pc [.ref g0, .int x] (qm dd cI cZ cR cJ sz [(g0, .inr (5, [.int (nI th), .ref qD, .ref qT, .int (nI U), .int (pI le wl), .int wd, .ref qN, .ref qO, .ref qS, .ref qC, .ref qP, .ref qG, .ref qB, .ref qF, .ref qX]))])) (va_Qi (fun (r : Int32) (u : Unit) => True) (fun u t => qa dd (va_A [(g0, .inr (5, [.int (nI th), .ref qD, .ref qT, .int (nI U), .int (pI le wl), .int wd, .ref qN, .ref qO, .ref qS, .ref qC, .ref qP, .ref qG, .ref qB, .ref qF, .ref qX]))] sz) [(g0, .inr (5, [.int (nI 1), .ref qD, .ref qT, .int (nI U), .int (pI le wl), .int wd, .ref qN, .ref qO, .ref qS, .ref qC, .ref qP, .ref qG, .ref qB, .ref qF, .ref qX]))] t) (va_A [(g0, .inr (5, [.int (nI th), .ref qD, .ref qT, .int (nI U), .int (pI le wl), .int wd, .ref qN, .ref qO, .ref qS, .ref qC, .ref qP, .ref qG, .ref qB, .ref qF, .ref qX]))] sz)) 0 0 (va_A [(g0, .inr (5, [.int (nI th), .ref qD, .ref qT, .int (nI U), .int (pI le wl), .int wd, .ref qN, .ref qO, .ref qS, .ref qC, .ref qP, .ref qG, .ref qB, .ref qF, .ref qX]))] sz) := by
  refine mk_mut (cc := cX5_size) (maxL := 5) (ret := (some .int)) (Qf := fun A => va_Qi (fun (r : Int32) (u : Unit) => True) (fun u t => qa dd A [(g0, .inr (5, [.int (nI 1), .ref qD, .ref qT, .int (nI U), .int (pI le wl), .int wd, .ref qN, .ref qO, .ref qS, .ref qC, .ref qP, .ref qG, .ref qB, .ref qF, .ref qX]))] t) A) (by decide) rfl (Nat.le_of_ble_eq_true rfl) ?_
  intro p e s m below meth c A hx hb hr hts hown hlocks hml hin hP hD hA hS hK ls hl
  have hown : s.vm.findClass RX5 = some m.cls := hown
  have hl : lv_has ls 5 [(0, .ref g0), (1, .int x)] := hl
  refine lv_aload_n hx hb dX5_size_0 rfl (lv_at hl 0 rfl) ?_
  refine lv_iload_n hx hb dX5_size_1 rfl (lv_at hl 1 rfl) ?_
  refine cm_i (wc := [(g0, .inr (5, [.int (nI th), .ref qD, .ref qT, .int (nI U), .int (pI le wl), .int wd, .ref qN, .ref qO, .ref qS, .ref qC, .ref qP, .ref qG, .ref qB, .ref qF, .ref qX]))]) (wr := []) (w1 := fun u : Bool => [(g0, .inr (5, [.int (nI 1), .ref qD, .ref qT, .int (nI U), .int (pI le wl), .int wd, .ref qN, .ref qO, .ref qS, .ref qC, .ref qP, .ref qG, .ref qB, .ref qF, .ref qX]))]) hP hD hS hA [0] [] rfl rfl (by decide) (by decide) (va_runV (As := [.int x]) (rest := []) ⟨hx, hb, hml, hown, hts⟩ (kX5_noControl_bad l dd cI cZ cR cJ g0 th U le wl wd qD qT qN qO qS qC qP qG qB qF qX x s.heap.size hbad) (cwV 1 hts gX5_size_X5_noControl rfl rfl rfl (by decide +kernel) ⟨Nat.le_of_ble_eq_true rfl, Nat.le_of_ble_eq_true rfl⟩) (pv_m hK hP hD 0 rfl (ci := 5) rfl [0] (by decide) rfl rfl) rfl rfl hl.1 rfl (lv_room (Nat.le_of_ble_eq_true rfl)) dX5_size_2 ⟨Nat.zero_le _, Nat.zero_le _⟩) (fun r_2 u9 H locs hw hP hD hS => ?_)
  obtain ⟨b_1, rfl⟩ : ∃ z, z = u9 := ⟨_, rfl⟩
  obtain ⟨hr9, hw_3⟩ := hw
  try dsimp only at hr9 hw_3
  subst hr9
  have hP : va_P dd vwCl [(g0, .inr (5, [.int (nI 1), .ref qD, .ref qT, .int (nI U), .int (pI le wl), .int wd, .ref qN, .ref qO, .ref qS, .ref qC, .ref qP, .ref qG, .ref qB, .ref qF, .ref qX]))] H := hP
  have hD : va_D A [(g0, .inr (5, [.int (nI 1), .ref qD, .ref qT, .int (nI U), .int (pI le wl), .int wd, .ref qN, .ref qO, .ref qS, .ref qC, .ref qP, .ref qG, .ref qB, .ref qF, .ref qX]))] := hD
  subst hw_3
  refine br_if_eq (tgt := 10) hx hb dX5_size_5 (by decide) (fun c_5 => absurd c_5 (by decide)) (fun c_5 => ?_)
  refine lv_iconst (v := nI 0) hx hb dX5_size_8 (by decide) ?_
  have hP9 := hP.sub (ws' := [(g0, .inr (5, [.int (nI 1), .ref qD, .ref qT, .int (nI U), .int (pI le wl), .int wd, .ref qN, .ref qO, .ref qS, .ref qC, .ref qP, .ref qG, .ref qB, .ref qF, .ref qX]))]) [0] rfl
  have hD9 := hD.sub (ws' := [(g0, .inr (5, [.int (nI 1), .ref qD, .ref qT, .int (nI U), .int (pI le wl), .int wd, .ref qN, .ref qO, .ref qS, .ref qC, .ref qP, .ref qG, .ref qB, .ref qF, .ref qX]))]) [0] (by decide) rfl
  exact W.iret (v := nI 0) hx hb hr (fun t ht hW => ⟨⟨nI 0, (), rfl, trivial, by rw [ht]; exact hP9, hD9⟩, hS.F ht⟩) hS.2.2 dX5_size_9

set_option maxHeartbeats 4000000 in
set_option maxRecDepth 100000 in
theorem kX5_next_b1 (l : Launch) (dd : va_G) (cI cZ cR cJ : ClassId) (g0 : Nat) (th : Nat) (U : Nat) (le : Bool) (wl : Nat) (wd : Int32) (qD : Nat) (qT : Nat) (qN : Nat) (qO : Nat) (qS : Nat) (qC : Nat) (qP : Nat) (qG : Nat) (qB : Nat) (qF : Nat) (qX : Nat) (x : Int32) (puts : Bool) (sz : Nat) (hbad : x < 0 ∨ ¬ x ≤ nI 3) : Met l yX5_next wsX5_next ({ frames := 1, cells := 0, slots := 0, locals := 21 }) (va_Pc [.ref g0, .int x, .int (bI puts)] (qm dd cI cZ cR cJ sz [(g0, .inr (5, [.int (nI th), .ref qD, .ref qT, .int (nI U), .int (pI le wl), .int wd, .ref qN, .ref qO, .ref qS, .ref qC, .ref qP, .ref qG, .ref qB, .ref qF, .ref qX]))])) (va_Qi (fun (r : Int32) (u : Unit) => True) (fun u t => qa dd (va_A [(g0, .inr (5, [.int (nI th), .ref qD, .ref qT, .int (nI U), .int (pI le wl), .int wd, .ref qN, .ref qO, .ref qS, .ref qC, .ref qP, .ref qG, .ref qB, .ref qF, .ref qX]))] sz) [(g0, .inr (5, [.int (nI 1), .ref qD, .ref qT, .int (nI U), .int (pI le wl), .int wd, .ref qN, .ref qO, .ref qS, .ref qC, .ref qP, .ref qG, .ref qB, .ref qF, .ref qX]))] t) (va_A [(g0, .inr (5, [.int (nI th), .ref qD, .ref qT, .int (nI U), .int (pI le wl), .int wd, .ref qN, .ref qO, .ref qS, .ref qC, .ref qP, .ref qG, .ref qB, .ref qF, .ref qX]))] sz)) 0 0 (va_A [(g0, .inr (5, [.int (nI th), .ref qD, .ref qT, .int (nI U), .int (pI le wl), .int wd, .ref qN, .ref qO, .ref qS, .ref qC, .ref qP, .ref qG, .ref qB, .ref qF, .ref qX]))] sz) := by
  refine mk_mut (cc := cX5_next) (maxL := 4) (ret := (some .int)) (Qf := fun A => va_Qi (fun (r : Int32) (u : Unit) => True) (fun u t => qa dd A [(g0, .inr (5, [.int (nI 1), .ref qD, .ref qT, .int (nI U), .int (pI le wl), .int wd, .ref qN, .ref qO, .ref qS, .ref qC, .ref qP, .ref qG, .ref qB, .ref qF, .ref qX]))] t) A) (by decide) rfl (Nat.le_of_ble_eq_true rfl) ?_
  intro p e s m below meth c A hx hb hr hts hown hlocks hml hin hP hD hA hS hK ls hl
  have hown : s.vm.findClass RX5 = some m.cls := hown
  have hl : lv_has ls 4 [(0, .ref g0), (1, .int x), (2, .int (bI puts))] := hl
  refine lv_aload_n hx hb dX5_next_0 rfl (lv_at hl 0 rfl) ?_
  refine lv_iload_n hx hb dX5_next_1 rfl (lv_at hl 1 rfl) ?_
  refine cm_i (wc := [(g0, .inr (5, [.int (nI th), .ref qD, .ref qT, .int (nI U), .int (pI le wl), .int wd, .ref qN, .ref qO, .ref qS, .ref qC, .ref qP, .ref qG, .ref qB, .ref qF, .ref qX]))]) (wr := []) (w1 := fun u : Bool => [(g0, .inr (5, [.int (nI 1), .ref qD, .ref qT, .int (nI U), .int (pI le wl), .int wd, .ref qN, .ref qO, .ref qS, .ref qC, .ref qP, .ref qG, .ref qB, .ref qF, .ref qX]))]) hP hD hS hA [0] [] rfl rfl (by decide) (by decide) (va_runV (As := [.int x]) (rest := []) ⟨hx, hb, hml, hown, hts⟩ (kX5_noControl_bad l dd cI cZ cR cJ g0 th U le wl wd qD qT qN qO qS qC qP qG qB qF qX x s.heap.size hbad) (cwV 1 hts gX5_next_X5_noControl rfl rfl rfl (by decide +kernel) ⟨Nat.le_of_ble_eq_true rfl, Nat.le_of_ble_eq_true rfl⟩) (pv_m hK hP hD 0 rfl (ci := 5) rfl [0] (by decide) rfl rfl) rfl rfl hl.1 rfl (lv_room (Nat.le_of_ble_eq_true rfl)) dX5_next_2 ⟨Nat.zero_le _, Nat.zero_le _⟩) (fun r_2 u9 H locs hw hP hD hS => ?_)
  obtain ⟨b_1, rfl⟩ : ∃ z, z = u9 := ⟨_, rfl⟩
  obtain ⟨hr9, hw_3⟩ := hw
  try dsimp only at hr9 hw_3
  subst hr9
  have hP : va_P dd vwCl [(g0, .inr (5, [.int (nI 1), .ref qD, .ref qT, .int (nI U), .int (pI le wl), .int wd, .ref qN, .ref qO, .ref qS, .ref qC, .ref qP, .ref qG, .ref qB, .ref qF, .ref qX]))] H := hP
  have hD : va_D A [(g0, .inr (5, [.int (nI 1), .ref qD, .ref qT, .int (nI U), .int (pI le wl), .int wd, .ref qN, .ref qO, .ref qS, .ref qC, .ref qP, .ref qG, .ref qB, .ref qF, .ref qX]))] := hD
  subst hw_3
  refine br_if_eq (tgt := 10) hx hb dX5_next_5 (by decide) (fun c_5 => absurd c_5 (by decide)) (fun c_5 => ?_)
  refine lv_iconst (v := nI 0) hx hb dX5_next_8 (by decide) ?_
  have hP9 := hP.sub (ws' := [(g0, .inr (5, [.int (nI 1), .ref qD, .ref qT, .int (nI U), .int (pI le wl), .int wd, .ref qN, .ref qO, .ref qS, .ref qC, .ref qP, .ref qG, .ref qB, .ref qF, .ref qX]))]) [0] rfl
  have hD9 := hD.sub (ws' := [(g0, .inr (5, [.int (nI 1), .ref qD, .ref qT, .int (nI U), .int (pI le wl), .int wd, .ref qN, .ref qO, .ref qS, .ref qC, .ref qP, .ref qG, .ref qB, .ref qF, .ref qX]))]) [0] (by decide) rfl
  exact W.iret (v := nI 0) hx hb hr (fun t ht hW => ⟨⟨nI 0, (), rfl, trivial, by rw [ht]; exact hP9, hD9⟩, hS.F ht⟩) hS.2.2 dX5_next_9

set_option maxHeartbeats 4000000 in
set_option maxRecDepth 100000 in
theorem kX5_name_b1 (l : Launch) (dd : va_G) (cI cZ cR cJ : ClassId) (g0 : Nat) (th : Nat) (U : Nat) (le : Bool) (wl : Nat) (wd : Int32) (qD : Nat) (qT : Nat) (qN : Nat) (qO : Nat) (qS : Nat) (qC : Nat) (qP : Nat) (qG : Nat) (qB : Nat) (qF : Nat) (qX : Nat) (x : Int32) (nm : Int64) (sz : Nat) (hbad : x < 0 ∨ ¬ x ≤ nI 3) : Met l yX5_name wsX5_name ({ frames := 1, cells := 0, slots := 0, locals := 21 }) (va_Pc [.ref g0, .int x, .long nm] (qm dd cI cZ cR cJ sz [(g0, .inr (5, [.int (nI th), .ref qD, .ref qT, .int (nI U), .int (pI le wl), .int wd, .ref qN, .ref qO, .ref qS, .ref qC, .ref qP, .ref qG, .ref qB, .ref qF, .ref qX]))])) (va_Qv (fun u : Unit => True) (fun u t => qa dd (va_A [(g0, .inr (5, [.int (nI th), .ref qD, .ref qT, .int (nI U), .int (pI le wl), .int wd, .ref qN, .ref qO, .ref qS, .ref qC, .ref qP, .ref qG, .ref qB, .ref qF, .ref qX]))] sz) [(g0, .inr (5, [.int (nI 1), .ref qD, .ref qT, .int (nI U), .int (pI le wl), .int wd, .ref qN, .ref qO, .ref qS, .ref qC, .ref qP, .ref qG, .ref qB, .ref qF, .ref qX]))] t) (va_A [(g0, .inr (5, [.int (nI th), .ref qD, .ref qT, .int (nI U), .int (pI le wl), .int wd, .ref qN, .ref qO, .ref qS, .ref qC, .ref qP, .ref qG, .ref qB, .ref qF, .ref qX]))] sz)) 0 0 (va_A [(g0, .inr (5, [.int (nI th), .ref qD, .ref qT, .int (nI U), .int (pI le wl), .int wd, .ref qN, .ref qO, .ref qS, .ref qC, .ref qP, .ref qG, .ref qB, .ref qF, .ref qX]))] sz) := by
  refine mk_mut (cc := cX5_name) (maxL := 5) (ret := none) (Qf := fun A => va_Qv (fun u : Unit => True) (fun u t => qa dd A [(g0, .inr (5, [.int (nI 1), .ref qD, .ref qT, .int (nI U), .int (pI le wl), .int wd, .ref qN, .ref qO, .ref qS, .ref qC, .ref qP, .ref qG, .ref qB, .ref qF, .ref qX]))] t) A) (by decide) rfl (Nat.le_of_ble_eq_true rfl) ?_
  intro p e s m below meth c A hx hb hr hts hown hlocks hml hin hP hD hA hS hK ls hl
  have hown : s.vm.findClass RX5 = some m.cls := hown
  have hl : lv_has ls 5 [(0, .ref g0), (1, .int x), (2, .long nm)] := hl
  refine lv_aload_n hx hb dX5_name_0 rfl (lv_at hl 0 rfl) ?_
  refine lv_iload_n hx hb dX5_name_1 rfl (lv_at hl 1 rfl) ?_
  refine cm_i (wc := [(g0, .inr (5, [.int (nI th), .ref qD, .ref qT, .int (nI U), .int (pI le wl), .int wd, .ref qN, .ref qO, .ref qS, .ref qC, .ref qP, .ref qG, .ref qB, .ref qF, .ref qX]))]) (wr := []) (w1 := fun u : Bool => [(g0, .inr (5, [.int (nI 1), .ref qD, .ref qT, .int (nI U), .int (pI le wl), .int wd, .ref qN, .ref qO, .ref qS, .ref qC, .ref qP, .ref qG, .ref qB, .ref qF, .ref qX]))]) hP hD hS hA [0] [] rfl rfl (by decide) (by decide) (va_runV (As := [.int x]) (rest := []) ⟨hx, hb, hml, hown, hts⟩ (kX5_noControl_bad l dd cI cZ cR cJ g0 th U le wl wd qD qT qN qO qS qC qP qG qB qF qX x s.heap.size hbad) (cwV 1 hts gX5_name_X5_noControl rfl rfl rfl (by decide +kernel) ⟨Nat.le_of_ble_eq_true rfl, Nat.le_of_ble_eq_true rfl⟩) (pv_m hK hP hD 0 rfl (ci := 5) rfl [0] (by decide) rfl rfl) rfl rfl hl.1 rfl (lv_room (Nat.le_of_ble_eq_true rfl)) dX5_name_2 ⟨Nat.zero_le _, Nat.zero_le _⟩) (fun r_2 u9 H locs hw hP hD hS => ?_)
  obtain ⟨b_1, rfl⟩ : ∃ z, z = u9 := ⟨_, rfl⟩
  obtain ⟨hr9, hw_3⟩ := hw
  try dsimp only at hr9 hw_3
  subst hr9
  have hP : va_P dd vwCl [(g0, .inr (5, [.int (nI 1), .ref qD, .ref qT, .int (nI U), .int (pI le wl), .int wd, .ref qN, .ref qO, .ref qS, .ref qC, .ref qP, .ref qG, .ref qB, .ref qF, .ref qX]))] H := hP
  have hD : va_D A [(g0, .inr (5, [.int (nI 1), .ref qD, .ref qT, .int (nI U), .int (pI le wl), .int wd, .ref qN, .ref qO, .ref qS, .ref qC, .ref qP, .ref qG, .ref qB, .ref qF, .ref qX]))] := hD
  subst hw_3
  refine br_if_eq (tgt := 9) hx hb dX5_name_5 (by decide) (fun c_5 => absurd c_5 (by decide)) (fun c_5 => ?_)
  have hP9 := hP.sub (ws' := [(g0, .inr (5, [.int (nI 1), .ref qD, .ref qT, .int (nI U), .int (pI le wl), .int wd, .ref qN, .ref qO, .ref qS, .ref qC, .ref qP, .ref qG, .ref qB, .ref qF, .ref qX]))]) [0] rfl
  have hD9 := hD.sub (ws' := [(g0, .inr (5, [.int (nI 1), .ref qD, .ref qT, .int (nI U), .int (pI le wl), .int wd, .ref qN, .ref qO, .ref qS, .ref qC, .ref qP, .ref qG, .ref qB, .ref qF, .ref qX]))]) [0] (by decide) rfl
  exact W.vret hx hb hr (fun t ht hW => ⟨⟨(), rfl, trivial, by rw [ht]; exact hP9, hD9⟩, hS.F ht⟩) hS.2.2 dX5_name_8

set_option maxHeartbeats 4000000 in
set_option maxRecDepth 100000 in
theorem kX5_read_b1 (l : Launch) (dd : va_G) (cI cZ cR cJ : ClassId) (g0 : Nat) (th : Nat) (U : Nat) (le : Bool) (wl : Nat) (wd : Int32) (qD : Nat) (qT : Nat) (qN : Nat) (qO : Nat) (qS : Nat) (qC : Nat) (qP : Nat) (qG : Nat) (qB : Nat) (qF : Nat) (qX : Nat) (x : Int32) (sz : Nat) (hbad : x < 0 ∨ ¬ x ≤ nI 3) : Met l yX5_read wsX5_read ({ frames := 2, cells := 0, slots := 0, locals := 44 }) (va_Pc [.ref g0, .int x] (qm dd cI cZ cR cJ sz [(g0, .inr (5, [.int (nI th), .ref qD, .ref qT, .int (nI U), .int (pI le wl), .int wd, .ref qN, .ref qO, .ref qS, .ref qC, .ref qP, .ref qG, .ref qB, .ref qF, .ref qX]))])) (va_Qi (fun (r : Int32) (u : Unit) => True) (fun u t => qa dd (va_A [(g0, .inr (5, [.int (nI th), .ref qD, .ref qT, .int (nI U), .int (pI le wl), .int wd, .ref qN, .ref qO, .ref qS, .ref qC, .ref qP, .ref qG, .ref qB, .ref qF, .ref qX]))] sz) [(g0, .inr (5, [.int (nI 1), .ref qD, .ref qT, .int (nI U), .int (pI le wl), .int wd, .ref qN, .ref qO, .ref qS, .ref qC, .ref qP, .ref qG, .ref qB, .ref qF, .ref qX]))] t) (va_A [(g0, .inr (5, [.int (nI th), .ref qD, .ref qT, .int (nI U), .int (pI le wl), .int wd, .ref qN, .ref qO, .ref qS, .ref qC, .ref qP, .ref qG, .ref qB, .ref qF, .ref qX]))] sz)) 0 0 (va_A [(g0, .inr (5, [.int (nI th), .ref qD, .ref qT, .int (nI U), .int (pI le wl), .int wd, .ref qN, .ref qO, .ref qS, .ref qC, .ref qP, .ref qG, .ref qB, .ref qF, .ref qX]))] sz) := by
  refine mk_mut (cc := cX5_read) (maxL := 2) (ret := (some .int)) (Qf := fun A => va_Qi (fun (r : Int32) (u : Unit) => True) (fun u t => qa dd A [(g0, .inr (5, [.int (nI 1), .ref qD, .ref qT, .int (nI U), .int (pI le wl), .int wd, .ref qN, .ref qO, .ref qS, .ref qC, .ref qP, .ref qG, .ref qB, .ref qF, .ref qX]))] t) A) (by decide) rfl (Nat.le_of_ble_eq_true rfl) ?_
  intro p e s m below meth c A hx hb hr hts hown hlocks hml hin hP hD hA hS hK ls hl
  have hown : s.vm.findClass RX5 = some m.cls := hown
  have hl : lv_has ls 2 [(0, .ref g0), (1, .int x)] := hl
  refine lv_aload_n hx hb dX5_read_0 rfl (lv_at hl 0 rfl) ?_
  refine lv_iload_n hx hb dX5_read_1 rfl (lv_at hl 1 rfl) ?_
  refine lv_iconst (v := nI 0) hx hb dX5_read_2 (by decide) ?_
  refine cm_i (wc := [(g0, .inr (5, [.int (nI th), .ref qD, .ref qT, .int (nI U), .int (pI le wl), .int wd, .ref qN, .ref qO, .ref qS, .ref qC, .ref qP, .ref qG, .ref qB, .ref qF, .ref qX]))]) (wr := []) (w1 := fun u : Unit => [(g0, .inr (5, [.int (nI 1), .ref qD, .ref qT, .int (nI U), .int (pI le wl), .int wd, .ref qN, .ref qO, .ref qS, .ref qC, .ref qP, .ref qG, .ref qB, .ref qF, .ref qX]))]) hP hD hS hA [0] [] rfl rfl (by decide) (by decide) (va_runV (As := [.int x, .int (nI 0)]) (rest := []) ⟨hx, hb, hml, hown, hts⟩ (kX5_next_b1 l dd cI cZ cR cJ g0 th U le wl wd qD qT qN qO qS qC qP qG qB qF qX x false s.heap.size (by omega)) (cwV 2 hts gX5_read_X5_next rfl rfl rfl (by decide +kernel) ⟨Nat.le_of_ble_eq_true rfl, Nat.le_of_ble_eq_true rfl⟩) (pv_m hK hP hD 0 rfl (ci := 5) rfl [0] (by decide) rfl rfl) rfl rfl hl.1 rfl (lv_room (Nat.le_of_ble_eq_true rfl)) dX5_read_3 ⟨Nat.zero_le _, Nat.zero_le _⟩) (fun r_1 u9 H locs hw hP hD hS => ?_)
  have hw_2 := hw
  try dsimp only at hw_2
  have hP : va_P dd vwCl [(g0, .inr (5, [.int (nI 1), .ref qD, .ref qT, .int (nI U), .int (pI le wl), .int wd, .ref qN, .ref qO, .ref qS, .ref qC, .ref qP, .ref qG, .ref qB, .ref qF, .ref qX]))] H := hP
  have hD : va_D A [(g0, .inr (5, [.int (nI 1), .ref qD, .ref qT, .int (nI U), .int (pI le wl), .int wd, .ref qN, .ref qO, .ref qS, .ref qC, .ref qP, .ref qG, .ref qB, .ref qF, .ref qX]))] := hD
  have hP9 := hP.sub (ws' := [(g0, .inr (5, [.int (nI 1), .ref qD, .ref qT, .int (nI U), .int (pI le wl), .int wd, .ref qN, .ref qO, .ref qS, .ref qC, .ref qP, .ref qG, .ref qB, .ref qF, .ref qX]))]) [0] rfl
  have hD9 := hD.sub (ws' := [(g0, .inr (5, [.int (nI 1), .ref qD, .ref qT, .int (nI U), .int (pI le wl), .int wd, .ref qN, .ref qO, .ref qS, .ref qC, .ref qP, .ref qG, .ref qB, .ref qF, .ref qX]))]) [0] (by decide) rfl
  exact W.iret (v := r_1) hx hb hr (fun t ht hW => ⟨⟨r_1, (), rfl, trivial, by rw [ht]; exact hP9, hD9⟩, hS.F ht⟩) hS.2.2 dX5_read_6

set_option maxHeartbeats 4000000 in
set_option maxRecDepth 100000 in
theorem kX5_write_b1 (l : Launch) (dd : va_G) (cI cZ cR cJ : ClassId) (g0 : Nat) (th : Nat) (U : Nat) (le : Bool) (wl : Nat) (wd : Int32) (qD : Nat) (qT : Nat) (qN : Nat) (qO : Nat) (qS : Nat) (qC : Nat) (qP : Nat) (qG : Nat) (qB : Nat) (qF : Nat) (qX : Nat) (x : Int32) (sz : Nat) (hbad : x < 0 ∨ ¬ x ≤ nI 3) : Met l yX5_write wsX5_write ({ frames := 2, cells := 0, slots := 0, locals := 44 }) (va_Pc [.ref g0, .int x] (qm dd cI cZ cR cJ sz [(g0, .inr (5, [.int (nI th), .ref qD, .ref qT, .int (nI U), .int (pI le wl), .int wd, .ref qN, .ref qO, .ref qS, .ref qC, .ref qP, .ref qG, .ref qB, .ref qF, .ref qX]))])) (va_Qi (fun (r : Int32) (u : Unit) => True) (fun u t => qa dd (va_A [(g0, .inr (5, [.int (nI th), .ref qD, .ref qT, .int (nI U), .int (pI le wl), .int wd, .ref qN, .ref qO, .ref qS, .ref qC, .ref qP, .ref qG, .ref qB, .ref qF, .ref qX]))] sz) [(g0, .inr (5, [.int (nI 1), .ref qD, .ref qT, .int (nI U), .int (pI le wl), .int wd, .ref qN, .ref qO, .ref qS, .ref qC, .ref qP, .ref qG, .ref qB, .ref qF, .ref qX]))] t) (va_A [(g0, .inr (5, [.int (nI th), .ref qD, .ref qT, .int (nI U), .int (pI le wl), .int wd, .ref qN, .ref qO, .ref qS, .ref qC, .ref qP, .ref qG, .ref qB, .ref qF, .ref qX]))] sz)) 0 0 (va_A [(g0, .inr (5, [.int (nI th), .ref qD, .ref qT, .int (nI U), .int (pI le wl), .int wd, .ref qN, .ref qO, .ref qS, .ref qC, .ref qP, .ref qG, .ref qB, .ref qF, .ref qX]))] sz) := by
  refine mk_mut (cc := cX5_write) (maxL := 2) (ret := (some .int)) (Qf := fun A => va_Qi (fun (r : Int32) (u : Unit) => True) (fun u t => qa dd A [(g0, .inr (5, [.int (nI 1), .ref qD, .ref qT, .int (nI U), .int (pI le wl), .int wd, .ref qN, .ref qO, .ref qS, .ref qC, .ref qP, .ref qG, .ref qB, .ref qF, .ref qX]))] t) A) (by decide) rfl (Nat.le_of_ble_eq_true rfl) ?_
  intro p e s m below meth c A hx hb hr hts hown hlocks hml hin hP hD hA hS hK ls hl
  have hown : s.vm.findClass RX5 = some m.cls := hown
  have hl : lv_has ls 2 [(0, .ref g0), (1, .int x)] := hl
  refine lv_aload_n hx hb dX5_write_0 rfl (lv_at hl 0 rfl) ?_
  refine lv_iload_n hx hb dX5_write_1 rfl (lv_at hl 1 rfl) ?_
  refine lv_iconst (v := nI 1) hx hb dX5_write_2 (by decide) ?_
  refine cm_i (wc := [(g0, .inr (5, [.int (nI th), .ref qD, .ref qT, .int (nI U), .int (pI le wl), .int wd, .ref qN, .ref qO, .ref qS, .ref qC, .ref qP, .ref qG, .ref qB, .ref qF, .ref qX]))]) (wr := []) (w1 := fun u : Unit => [(g0, .inr (5, [.int (nI 1), .ref qD, .ref qT, .int (nI U), .int (pI le wl), .int wd, .ref qN, .ref qO, .ref qS, .ref qC, .ref qP, .ref qG, .ref qB, .ref qF, .ref qX]))]) hP hD hS hA [0] [] rfl rfl (by decide) (by decide) (va_runV (As := [.int x, .int (nI 1)]) (rest := []) ⟨hx, hb, hml, hown, hts⟩ (kX5_next_b1 l dd cI cZ cR cJ g0 th U le wl wd qD qT qN qO qS qC qP qG qB qF qX x true s.heap.size (by omega)) (cwV 2 hts gX5_write_X5_next rfl rfl rfl (by decide +kernel) ⟨Nat.le_of_ble_eq_true rfl, Nat.le_of_ble_eq_true rfl⟩) (pv_m hK hP hD 0 rfl (ci := 5) rfl [0] (by decide) rfl rfl) rfl rfl hl.1 rfl (lv_room (Nat.le_of_ble_eq_true rfl)) dX5_write_3 ⟨Nat.zero_le _, Nat.zero_le _⟩) (fun r_1 u9 H locs hw hP hD hS => ?_)
  have hw_2 := hw
  try dsimp only at hw_2
  have hP : va_P dd vwCl [(g0, .inr (5, [.int (nI 1), .ref qD, .ref qT, .int (nI U), .int (pI le wl), .int wd, .ref qN, .ref qO, .ref qS, .ref qC, .ref qP, .ref qG, .ref qB, .ref qF, .ref qX]))] H := hP
  have hD : va_D A [(g0, .inr (5, [.int (nI 1), .ref qD, .ref qT, .int (nI U), .int (pI le wl), .int wd, .ref qN, .ref qO, .ref qS, .ref qC, .ref qP, .ref qG, .ref qB, .ref qF, .ref qX]))] := hD
  have hP9 := hP.sub (ws' := [(g0, .inr (5, [.int (nI 1), .ref qD, .ref qT, .int (nI U), .int (pI le wl), .int wd, .ref qN, .ref qO, .ref qS, .ref qC, .ref qP, .ref qG, .ref qB, .ref qF, .ref qX]))]) [0] rfl
  have hD9 := hD.sub (ws' := [(g0, .inr (5, [.int (nI 1), .ref qD, .ref qT, .int (nI U), .int (pI le wl), .int wd, .ref qN, .ref qO, .ref qS, .ref qC, .ref qP, .ref qG, .ref qB, .ref qF, .ref qX]))]) [0] (by decide) rfl
  exact W.iret (v := r_1) hx hb hr (fun t ht hW => ⟨⟨r_1, (), rfl, trivial, by rw [ht]; exact hP9, hD9⟩, hS.F ht⟩) hS.2.2 dX5_write_6

set_option maxHeartbeats 4000000 in
set_option maxRecDepth 100000 in
theorem kX5_login_b1 (l : Launch) (dd : va_G) (cI cZ cR cJ : ClassId) (g0 : Nat) (th : Nat) (U : Nat) (le : Bool) (wl : Nat) (wd : Int32) (qD : Nat) (qT : Nat) (qN : Nat) (qO : Nat) (qS : Nat) (qC : Nat) (qP : Nat) (qG : Nat) (qB : Nat) (qF : Nat) (qX : Nat) (x : Int32) (sz : Nat) (hbad : x < 0 ∨ ¬ x ≤ nI 15) : Met l yX5_login wsX5_login ({ frames := 0, cells := 0, slots := 0, locals := 0 }) (va_Pc [.ref g0, .int x] (qm dd cI cZ cR cJ sz [(g0, .inr (5, [.int (nI th), .ref qD, .ref qT, .int (nI U), .int (pI le wl), .int wd, .ref qN, .ref qO, .ref qS, .ref qC, .ref qP, .ref qG, .ref qB, .ref qF, .ref qX]))])) (va_Qi (fun (r : Int32) (u : Unit) => True) (fun u t => qa dd (va_A [(g0, .inr (5, [.int (nI th), .ref qD, .ref qT, .int (nI U), .int (pI le wl), .int wd, .ref qN, .ref qO, .ref qS, .ref qC, .ref qP, .ref qG, .ref qB, .ref qF, .ref qX]))] sz) [(g0, .inr (5, [.int (nI 1), .ref qD, .ref qT, .int (nI U), .int (pI le wl), .int wd, .ref qN, .ref qO, .ref qS, .ref qC, .ref qP, .ref qG, .ref qB, .ref qF, .ref qX]))] t) (va_A [(g0, .inr (5, [.int (nI th), .ref qD, .ref qT, .int (nI U), .int (pI le wl), .int wd, .ref qN, .ref qO, .ref qS, .ref qC, .ref qP, .ref qG, .ref qB, .ref qF, .ref qX]))] sz)) 0 0 (va_A [(g0, .inr (5, [.int (nI th), .ref qD, .ref qT, .int (nI U), .int (pI le wl), .int wd, .ref qN, .ref qO, .ref qS, .ref qC, .ref qP, .ref qG, .ref qB, .ref qF, .ref qX]))] sz) := by
  refine mk_mut (cc := cX5_login) (maxL := 5) (ret := (some .int)) (Qf := fun A => va_Qi (fun (r : Int32) (u : Unit) => True) (fun u t => qa dd A [(g0, .inr (5, [.int (nI 1), .ref qD, .ref qT, .int (nI U), .int (pI le wl), .int wd, .ref qN, .ref qO, .ref qS, .ref qC, .ref qP, .ref qG, .ref qB, .ref qF, .ref qX]))] t) A) (by decide) rfl (Nat.le_of_ble_eq_true rfl) ?_
  intro p e s m below meth c A hx hb hr hts hown hlocks hml hin hP hD hA hS hK ls hl
  have hown : s.vm.findClass RX5 = some m.cls := hown
  have hl : lv_has ls 5 [(0, .ref g0), (1, .int x)] := hl
  have hf_48 := hts (.fieldLink RX5 48 "RecordSystemModel" "thrown" "I") (by decide +kernel)
  have hin_X5 : ∀ w ∈ wsX50, w ∈ wsX5_login := by decide +kernel
  refine lv_aload_n hx hb dX5_login_0 rfl (lv_at hl 0 rfl) ?_
  refine lv_iload_n hx hb dX5_login_1 rfl (lv_at hl 1 rfl) ?_
  refine lv_if_lt (tgt := 11) hx hb dX5_login_2 (by decide) (fun c_2 => ?_) (fun c_2 => ?_)
  · refine lv_iconst (v := nI 1) hx hb dX5_login_11 (by decide) ?_
    refine lv_goto (tgt := 16) hx hb dX5_login_12 (by decide) ?_
    refine va_put (D := dd) (ci := 5) (v := .int (nI 1)) (ty := .int) (C := RX5) (T := TX5) (N := 15) hx hb hts hin_X5 tyX5 tyX5_ok nmX5 hown hK.1 hP hD hS 0 rfl rfl 0 (by decide) hf_48 (fun _ h9 => h9) rfl (by decide +kernel) rfl rfl (Nat.le_of_ble_eq_true rfl) dX5_login_16 (fun H locs hP hD hS => ?_)
    have hP : va_P dd vwCl [(g0, .inr (5, [.int (nI 1), .ref qD, .ref qT, .int (nI U), .int (pI le wl), .int wd, .ref qN, .ref qO, .ref qS, .ref qC, .ref qP, .ref qG, .ref qB, .ref qF, .ref qX]))] H := hP
    have hD : va_D A [(g0, .inr (5, [.int (nI 1), .ref qD, .ref qT, .int (nI U), .int (pI le wl), .int wd, .ref qN, .ref qO, .ref qS, .ref qC, .ref qP, .ref qG, .ref qB, .ref qF, .ref qX]))] := hD
    refine lv_aload_n hx hb dX5_login_19 rfl (lv_at hl 0 rfl) ?_
    refine va_get (D := dd) (ci := 5) (v := .int (nI 1)) (C := RX5) (T := TX5) (N := 15) hx hb hts hin_X5 hown hK.1 hP 0 rfl rfl 0 (by decide) hf_48 (fun _ h9 => h9) rfl dX5_login_20 ?_
    refine nr_if_le (tgt := 28) hx hb (by omega) dX5_login_23 (by decide) (fun c_23 => absurd c_23 (by omega)) (fun c_23 => ?_)
    refine lv_iconst (v := nI 0) hx hb dX5_login_26 (by decide) ?_
    have hP9 := hP.sub (ws' := [(g0, .inr (5, [.int (nI 1), .ref qD, .ref qT, .int (nI U), .int (pI le wl), .int wd, .ref qN, .ref qO, .ref qS, .ref qC, .ref qP, .ref qG, .ref qB, .ref qF, .ref qX]))]) [0] rfl
    have hD9 := hD.sub (ws' := [(g0, .inr (5, [.int (nI 1), .ref qD, .ref qT, .int (nI U), .int (pI le wl), .int wd, .ref qN, .ref qO, .ref qS, .ref qC, .ref qP, .ref qG, .ref qB, .ref qF, .ref qX]))]) [0] (by decide) rfl
    exact W.iret (v := nI 0) hx hb hr (fun t ht hW => ⟨⟨nI 0, (), rfl, trivial, by rw [ht]; exact hP9, hD9⟩, hS.F ht⟩) hS.2.2 dX5_login_27
  · refine lv_iload_n hx hb dX5_login_5 rfl (lv_at hl 1 rfl) ?_
    refine lv_bipush (v := nI 15) hx hb dX5_login_6 (by decide) ?_
    refine lv_icmp_le (tgt := 15) hx hb dX5_login_8 (by decide) (fun c_8 => absurd c_8 (hbad.resolve_left c_2)) (fun c_8 => ?_)
    refine lv_iconst (v := nI 1) hx hb dX5_login_11 (by decide) ?_
    refine lv_goto (tgt := 16) hx hb dX5_login_12 (by decide) ?_
    refine va_put (D := dd) (ci := 5) (v := .int (nI 1)) (ty := .int) (C := RX5) (T := TX5) (N := 15) hx hb hts hin_X5 tyX5 tyX5_ok nmX5 hown hK.1 hP hD hS 0 rfl rfl 0 (by decide) hf_48 (fun _ h9 => h9) rfl (by decide +kernel) rfl rfl (Nat.le_of_ble_eq_true rfl) dX5_login_16 (fun H locs hP hD hS => ?_)
    have hP : va_P dd vwCl [(g0, .inr (5, [.int (nI 1), .ref qD, .ref qT, .int (nI U), .int (pI le wl), .int wd, .ref qN, .ref qO, .ref qS, .ref qC, .ref qP, .ref qG, .ref qB, .ref qF, .ref qX]))] H := hP
    have hD : va_D A [(g0, .inr (5, [.int (nI 1), .ref qD, .ref qT, .int (nI U), .int (pI le wl), .int wd, .ref qN, .ref qO, .ref qS, .ref qC, .ref qP, .ref qG, .ref qB, .ref qF, .ref qX]))] := hD
    refine lv_aload_n hx hb dX5_login_19 rfl (lv_at hl 0 rfl) ?_
    refine va_get (D := dd) (ci := 5) (v := .int (nI 1)) (C := RX5) (T := TX5) (N := 15) hx hb hts hin_X5 hown hK.1 hP 0 rfl rfl 0 (by decide) hf_48 (fun _ h9 => h9) rfl dX5_login_20 ?_
    refine nr_if_le (tgt := 28) hx hb (by omega) dX5_login_23 (by decide) (fun c_23 => absurd c_23 (by omega)) (fun c_23 => ?_)
    refine lv_iconst (v := nI 0) hx hb dX5_login_26 (by decide) ?_
    have hP9 := hP.sub (ws' := [(g0, .inr (5, [.int (nI 1), .ref qD, .ref qT, .int (nI U), .int (pI le wl), .int wd, .ref qN, .ref qO, .ref qS, .ref qC, .ref qP, .ref qG, .ref qB, .ref qF, .ref qX]))]) [0] rfl
    have hD9 := hD.sub (ws' := [(g0, .inr (5, [.int (nI 1), .ref qD, .ref qT, .int (nI U), .int (pI le wl), .int wd, .ref qN, .ref qO, .ref qS, .ref qC, .ref qP, .ref qG, .ref qB, .ref qF, .ref qX]))]) [0] (by decide) rfl
    exact W.iret (v := nI 0) hx hb hr (fun t ht hW => ⟨⟨nI 0, (), rfl, trivial, by rw [ht]; exact hP9, hD9⟩, hS.F ht⟩) hS.2.2 dX5_login_27

set_option maxHeartbeats 4000000 in
set_option maxRecDepth 100000 in
theorem kX5_power_b1 (l : Launch) (dd : va_G) (cI cZ cR cJ : ClassId) (g0 : Nat) (th : Nat) (U : Nat) (le : Bool) (wl : Nat) (wd : Int32) (qD : Nat) (qT : Nat) (qN : Nat) (qO : Nat) (qS : Nat) (qC : Nat) (qP : Nat) (qG : Nat) (qB : Nat) (qF : Nat) (qX : Nat) (x : Int32) (sz : Nat) (hbad : x < 0 ∨ ¬ x ≤ nI 1000) : Met l yX5_power wsX5_power ({ frames := 0, cells := 0, slots := 0, locals := 0 }) (va_Pc [.ref g0, .int x] (qm dd cI cZ cR cJ sz [(g0, .inr (5, [.int (nI th), .ref qD, .ref qT, .int (nI U), .int (pI le wl), .int wd, .ref qN, .ref qO, .ref qS, .ref qC, .ref qP, .ref qG, .ref qB, .ref qF, .ref qX]))])) (va_Qv (fun u : Unit => True) (fun u t => qa dd (va_A [(g0, .inr (5, [.int (nI th), .ref qD, .ref qT, .int (nI U), .int (pI le wl), .int wd, .ref qN, .ref qO, .ref qS, .ref qC, .ref qP, .ref qG, .ref qB, .ref qF, .ref qX]))] sz) [(g0, .inr (5, [.int (nI 1), .ref qD, .ref qT, .int (nI U), .int (pI le wl), .int wd, .ref qN, .ref qO, .ref qS, .ref qC, .ref qP, .ref qG, .ref qB, .ref qF, .ref qX]))] t) (va_A [(g0, .inr (5, [.int (nI th), .ref qD, .ref qT, .int (nI U), .int (pI le wl), .int wd, .ref qN, .ref qO, .ref qS, .ref qC, .ref qP, .ref qG, .ref qB, .ref qF, .ref qX]))] sz)) 0 0 (va_A [(g0, .inr (5, [.int (nI th), .ref qD, .ref qT, .int (nI U), .int (pI le wl), .int wd, .ref qN, .ref qO, .ref qS, .ref qC, .ref qP, .ref qG, .ref qB, .ref qF, .ref qX]))] sz) := by
  refine mk_mut (cc := cX5_power) (maxL := 2) (ret := none) (Qf := fun A => va_Qv (fun u : Unit => True) (fun u t => qa dd A [(g0, .inr (5, [.int (nI 1), .ref qD, .ref qT, .int (nI U), .int (pI le wl), .int wd, .ref qN, .ref qO, .ref qS, .ref qC, .ref qP, .ref qG, .ref qB, .ref qF, .ref qX]))] t) A) (by decide) rfl (Nat.le_of_ble_eq_true rfl) ?_
  intro p e s m below meth c A hx hb hr hts hown hlocks hml hin hP hD hA hS hK ls hl
  have hown : s.vm.findClass RX5 = some m.cls := hown
  have hl : lv_has ls 2 [(0, .ref g0), (1, .int x)] := hl
  have hf_48 := hts (.fieldLink RX5 48 "RecordSystemModel" "thrown" "I") (by decide +kernel)
  have hin_X5 : ∀ w ∈ wsX50, w ∈ wsX5_power := by decide +kernel
  refine lv_aload_n hx hb dX5_power_0 rfl (lv_at hl 0 rfl) ?_
  refine lv_iload_n hx hb dX5_power_1 rfl (lv_at hl 1 rfl) ?_
  refine lv_if_lt (tgt := 12) hx hb dX5_power_2 (by decide) (fun c_2 => ?_) (fun c_2 => ?_)
  · refine lv_iconst (v := nI 1) hx hb dX5_power_12 (by decide) ?_
    refine lv_goto (tgt := 17) hx hb dX5_power_13 (by decide) ?_
    refine va_put (D := dd) (ci := 5) (v := .int (nI 1)) (ty := .int) (C := RX5) (T := TX5) (N := 15) hx hb hts hin_X5 tyX5 tyX5_ok nmX5 hown hK.1 hP hD hS 0 rfl rfl 0 (by decide) hf_48 (fun _ h9 => h9) rfl (by decide +kernel) rfl rfl (Nat.le_of_ble_eq_true rfl) dX5_power_17 (fun H locs hP hD hS => ?_)
    have hP : va_P dd vwCl [(g0, .inr (5, [.int (nI 1), .ref qD, .ref qT, .int (nI U), .int (pI le wl), .int wd, .ref qN, .ref qO, .ref qS, .ref qC, .ref qP, .ref qG, .ref qB, .ref qF, .ref qX]))] H := hP
    have hD : va_D A [(g0, .inr (5, [.int (nI 1), .ref qD, .ref qT, .int (nI U), .int (pI le wl), .int wd, .ref qN, .ref qO, .ref qS, .ref qC, .ref qP, .ref qG, .ref qB, .ref qF, .ref qX]))] := hD
    refine lv_aload_n hx hb dX5_power_20 rfl (lv_at hl 0 rfl) ?_
    refine va_get (D := dd) (ci := 5) (v := .int (nI 1)) (C := RX5) (T := TX5) (N := 15) hx hb hts hin_X5 hown hK.1 hP 0 rfl rfl 0 (by decide) hf_48 (fun _ h9 => h9) rfl dX5_power_21 ?_
    refine nr_if_ne (tgt := 37) hx hb (by omega) dX5_power_24 (by decide) (fun c_24 => ?_) (fun c_24 => absurd c_24 (by omega))
    have hP9 := hP.sub (ws' := [(g0, .inr (5, [.int (nI 1), .ref qD, .ref qT, .int (nI U), .int (pI le wl), .int wd, .ref qN, .ref qO, .ref qS, .ref qC, .ref qP, .ref qG, .ref qB, .ref qF, .ref qX]))]) [0] rfl
    have hD9 := hD.sub (ws' := [(g0, .inr (5, [.int (nI 1), .ref qD, .ref qT, .int (nI U), .int (pI le wl), .int wd, .ref qN, .ref qO, .ref qS, .ref qC, .ref qP, .ref qG, .ref qB, .ref qF, .ref qX]))]) [0] (by decide) rfl
    exact W.vret hx hb hr (fun t ht hW => ⟨⟨(), rfl, trivial, by rw [ht]; exact hP9, hD9⟩, hS.F ht⟩) hS.2.2 dX5_power_37
  · refine lv_iload_n hx hb dX5_power_5 rfl (lv_at hl 1 rfl) ?_
    refine lv_sipush (v := nI 1000) hx hb dX5_power_6 (by decide) ?_
    refine lv_icmp_le (tgt := 16) hx hb dX5_power_9 (by decide) (fun c_9 => absurd c_9 (hbad.resolve_left c_2)) (fun c_9 => ?_)
    refine lv_iconst (v := nI 1) hx hb dX5_power_12 (by decide) ?_
    refine lv_goto (tgt := 17) hx hb dX5_power_13 (by decide) ?_
    refine va_put (D := dd) (ci := 5) (v := .int (nI 1)) (ty := .int) (C := RX5) (T := TX5) (N := 15) hx hb hts hin_X5 tyX5 tyX5_ok nmX5 hown hK.1 hP hD hS 0 rfl rfl 0 (by decide) hf_48 (fun _ h9 => h9) rfl (by decide +kernel) rfl rfl (Nat.le_of_ble_eq_true rfl) dX5_power_17 (fun H locs hP hD hS => ?_)
    have hP : va_P dd vwCl [(g0, .inr (5, [.int (nI 1), .ref qD, .ref qT, .int (nI U), .int (pI le wl), .int wd, .ref qN, .ref qO, .ref qS, .ref qC, .ref qP, .ref qG, .ref qB, .ref qF, .ref qX]))] H := hP
    have hD : va_D A [(g0, .inr (5, [.int (nI 1), .ref qD, .ref qT, .int (nI U), .int (pI le wl), .int wd, .ref qN, .ref qO, .ref qS, .ref qC, .ref qP, .ref qG, .ref qB, .ref qF, .ref qX]))] := hD
    refine lv_aload_n hx hb dX5_power_20 rfl (lv_at hl 0 rfl) ?_
    refine va_get (D := dd) (ci := 5) (v := .int (nI 1)) (C := RX5) (T := TX5) (N := 15) hx hb hts hin_X5 hown hK.1 hP 0 rfl rfl 0 (by decide) hf_48 (fun _ h9 => h9) rfl dX5_power_21 ?_
    refine nr_if_ne (tgt := 37) hx hb (by omega) dX5_power_24 (by decide) (fun c_24 => ?_) (fun c_24 => absurd c_24 (by omega))
    have hP9 := hP.sub (ws' := [(g0, .inr (5, [.int (nI 1), .ref qD, .ref qT, .int (nI U), .int (pI le wl), .int wd, .ref qN, .ref qO, .ref qS, .ref qC, .ref qP, .ref qG, .ref qB, .ref qF, .ref qX]))]) [0] rfl
    have hD9 := hD.sub (ws' := [(g0, .inr (5, [.int (nI 1), .ref qD, .ref qT, .int (nI U), .int (pI le wl), .int wd, .ref qN, .ref qO, .ref qS, .ref qC, .ref qP, .ref qG, .ref qB, .ref qF, .ref qX]))]) [0] (by decide) rfl
    exact W.vret hx hb hr (fun t ht hW => ⟨⟨(), rfl, trivial, by rw [ht]; exact hP9, hD9⟩, hS.F ht⟩) hS.2.2 dX5_power_37

set_option maxHeartbeats 4000000 in
set_option maxRecDepth 100000 in
theorem kX5_told_b1 (l : Launch) (dd : va_G) (cI cZ cR cJ : ClassId) (g0 : Nat) (th : Nat) (U : Nat) (le : Bool) (wl : Nat) (wd : Int32) (qD : Nat) (qT : Nat) (qN : Nat) (qO : Nat) (qS : Nat) (qC : Nat) (qP : Nat) (qG : Nat) (qB : Nat) (qF : Nat) (qX : Nat) (x : Int32) (sz : Nat) (hbad : x < 0 ∨ ¬ x ≤ nI 3) : Met l yX5_told wsX5_told ({ frames := 0, cells := 0, slots := 0, locals := 0 }) (va_Pc [.ref g0, .int x] (qm dd cI cZ cR cJ sz [(g0, .inr (5, [.int (nI th), .ref qD, .ref qT, .int (nI U), .int (pI le wl), .int wd, .ref qN, .ref qO, .ref qS, .ref qC, .ref qP, .ref qG, .ref qB, .ref qF, .ref qX]))])) (va_Qi (fun (r : Int32) (u : Unit) => True) (fun u t => qa dd (va_A [(g0, .inr (5, [.int (nI th), .ref qD, .ref qT, .int (nI U), .int (pI le wl), .int wd, .ref qN, .ref qO, .ref qS, .ref qC, .ref qP, .ref qG, .ref qB, .ref qF, .ref qX]))] sz) [(g0, .inr (5, [.int (nI 1), .ref qD, .ref qT, .int (nI U), .int (pI le wl), .int wd, .ref qN, .ref qO, .ref qS, .ref qC, .ref qP, .ref qG, .ref qB, .ref qF, .ref qX]))] t) (va_A [(g0, .inr (5, [.int (nI th), .ref qD, .ref qT, .int (nI U), .int (pI le wl), .int wd, .ref qN, .ref qO, .ref qS, .ref qC, .ref qP, .ref qG, .ref qB, .ref qF, .ref qX]))] sz)) 0 0 (va_A [(g0, .inr (5, [.int (nI th), .ref qD, .ref qT, .int (nI U), .int (pI le wl), .int wd, .ref qN, .ref qO, .ref qS, .ref qC, .ref qP, .ref qG, .ref qB, .ref qF, .ref qX]))] sz) := by
  refine mk_mut (cc := cX5_told) (maxL := 4) (ret := (some .int)) (Qf := fun A => va_Qi (fun (r : Int32) (u : Unit) => True) (fun u t => qa dd A [(g0, .inr (5, [.int (nI 1), .ref qD, .ref qT, .int (nI U), .int (pI le wl), .int wd, .ref qN, .ref qO, .ref qS, .ref qC, .ref qP, .ref qG, .ref qB, .ref qF, .ref qX]))] t) A) (by decide) rfl (Nat.le_of_ble_eq_true rfl) ?_
  intro p e s m below meth c A hx hb hr hts hown hlocks hml hin hP hD hA hS hK ls hl
  have hown : s.vm.findClass RX5 = some m.cls := hown
  have hl : lv_has ls 4 [(0, .ref g0), (1, .int x)] := hl
  have hf_48 := hts (.fieldLink RX5 48 "RecordSystemModel" "thrown" "I") (by decide +kernel)
  have hin_X5 : ∀ w ∈ wsX50, w ∈ wsX5_told := by decide +kernel
  refine lv_aload_n hx hb dX5_told_0 rfl (lv_at hl 0 rfl) ?_
  refine lv_iload_n hx hb dX5_told_1 rfl (lv_at hl 1 rfl) ?_
  refine lv_if_lt (tgt := 10) hx hb dX5_told_2 (by decide) (fun c_2 => ?_) (fun c_2 => ?_)
  · refine lv_iconst (v := nI 1) hx hb dX5_told_10 (by decide) ?_
    refine lv_goto (tgt := 15) hx hb dX5_told_11 (by decide) ?_
    refine va_put (D := dd) (ci := 5) (v := .int (nI 1)) (ty := .int) (C := RX5) (T := TX5) (N := 15) hx hb hts hin_X5 tyX5 tyX5_ok nmX5 hown hK.1 hP hD hS 0 rfl rfl 0 (by decide) hf_48 (fun _ h9 => h9) rfl (by decide +kernel) rfl rfl (Nat.le_of_ble_eq_true rfl) dX5_told_15 (fun H locs hP hD hS => ?_)
    have hP : va_P dd vwCl [(g0, .inr (5, [.int (nI 1), .ref qD, .ref qT, .int (nI U), .int (pI le wl), .int wd, .ref qN, .ref qO, .ref qS, .ref qC, .ref qP, .ref qG, .ref qB, .ref qF, .ref qX]))] H := hP
    have hD : va_D A [(g0, .inr (5, [.int (nI 1), .ref qD, .ref qT, .int (nI U), .int (pI le wl), .int wd, .ref qN, .ref qO, .ref qS, .ref qC, .ref qP, .ref qG, .ref qB, .ref qF, .ref qX]))] := hD
    refine lv_aload_n hx hb dX5_told_18 rfl (lv_at hl 0 rfl) ?_
    refine va_get (D := dd) (ci := 5) (v := .int (nI 1)) (C := RX5) (T := TX5) (N := 15) hx hb hts hin_X5 hown hK.1 hP 0 rfl rfl 0 (by decide) hf_48 (fun _ h9 => h9) rfl dX5_told_19 ?_
    refine nr_if_le (tgt := 27) hx hb (by omega) dX5_told_22 (by decide) (fun c_22 => absurd c_22 (by omega)) (fun c_22 => ?_)
    refine lv_iconst (v := nI 0) hx hb dX5_told_25 (by decide) ?_
    have hP9 := hP.sub (ws' := [(g0, .inr (5, [.int (nI 1), .ref qD, .ref qT, .int (nI U), .int (pI le wl), .int wd, .ref qN, .ref qO, .ref qS, .ref qC, .ref qP, .ref qG, .ref qB, .ref qF, .ref qX]))]) [0] rfl
    have hD9 := hD.sub (ws' := [(g0, .inr (5, [.int (nI 1), .ref qD, .ref qT, .int (nI U), .int (pI le wl), .int wd, .ref qN, .ref qO, .ref qS, .ref qC, .ref qP, .ref qG, .ref qB, .ref qF, .ref qX]))]) [0] (by decide) rfl
    exact W.iret (v := nI 0) hx hb hr (fun t ht hW => ⟨⟨nI 0, (), rfl, trivial, by rw [ht]; exact hP9, hD9⟩, hS.F ht⟩) hS.2.2 dX5_told_26
  · refine lv_iload_n hx hb dX5_told_5 rfl (lv_at hl 1 rfl) ?_
    refine lv_iconst (v := nI 3) hx hb dX5_told_6 (by decide) ?_
    refine lv_icmp_le (tgt := 14) hx hb dX5_told_7 (by decide) (fun c_7 => absurd c_7 (hbad.resolve_left c_2)) (fun c_7 => ?_)
    refine lv_iconst (v := nI 1) hx hb dX5_told_10 (by decide) ?_
    refine lv_goto (tgt := 15) hx hb dX5_told_11 (by decide) ?_
    refine va_put (D := dd) (ci := 5) (v := .int (nI 1)) (ty := .int) (C := RX5) (T := TX5) (N := 15) hx hb hts hin_X5 tyX5 tyX5_ok nmX5 hown hK.1 hP hD hS 0 rfl rfl 0 (by decide) hf_48 (fun _ h9 => h9) rfl (by decide +kernel) rfl rfl (Nat.le_of_ble_eq_true rfl) dX5_told_15 (fun H locs hP hD hS => ?_)
    have hP : va_P dd vwCl [(g0, .inr (5, [.int (nI 1), .ref qD, .ref qT, .int (nI U), .int (pI le wl), .int wd, .ref qN, .ref qO, .ref qS, .ref qC, .ref qP, .ref qG, .ref qB, .ref qF, .ref qX]))] H := hP
    have hD : va_D A [(g0, .inr (5, [.int (nI 1), .ref qD, .ref qT, .int (nI U), .int (pI le wl), .int wd, .ref qN, .ref qO, .ref qS, .ref qC, .ref qP, .ref qG, .ref qB, .ref qF, .ref qX]))] := hD
    refine lv_aload_n hx hb dX5_told_18 rfl (lv_at hl 0 rfl) ?_
    refine va_get (D := dd) (ci := 5) (v := .int (nI 1)) (C := RX5) (T := TX5) (N := 15) hx hb hts hin_X5 hown hK.1 hP 0 rfl rfl 0 (by decide) hf_48 (fun _ h9 => h9) rfl dX5_told_19 ?_
    refine nr_if_le (tgt := 27) hx hb (by omega) dX5_told_22 (by decide) (fun c_22 => absurd c_22 (by omega)) (fun c_22 => ?_)
    refine lv_iconst (v := nI 0) hx hb dX5_told_25 (by decide) ?_
    have hP9 := hP.sub (ws' := [(g0, .inr (5, [.int (nI 1), .ref qD, .ref qT, .int (nI U), .int (pI le wl), .int wd, .ref qN, .ref qO, .ref qS, .ref qC, .ref qP, .ref qG, .ref qB, .ref qF, .ref qX]))]) [0] rfl
    have hD9 := hD.sub (ws' := [(g0, .inr (5, [.int (nI 1), .ref qD, .ref qT, .int (nI U), .int (pI le wl), .int wd, .ref qN, .ref qO, .ref qS, .ref qC, .ref qP, .ref qG, .ref qB, .ref qF, .ref qX]))]) [0] (by decide) rfl
    exact W.iret (v := nI 0) hx hb hr (fun t ht hW => ⟨⟨nI 0, (), rfl, trivial, by rw [ht]; exact hP9, hD9⟩, hS.F ht⟩) hS.2.2 dX5_told_26

set_option maxHeartbeats 4000000 in
set_option maxRecDepth 100000 in
theorem kX5_disk_b1 (l : Launch) (dd : va_G) (cI cZ cR cJ : ClassId) (g0 : Nat) (th : Nat) (U : Nat) (le : Bool) (wl : Nat) (wd : Int32) (qD : Nat) (qT : Nat) (qN : Nat) (qO : Nat) (qS : Nat) (qC : Nat) (qP : Nat) (qG : Nat) (qB : Nat) (qF : Nat) (qX : Nat) (x : Int32) (sz : Nat) (hbad : x < 0 ∨ ¬ x ≤ nI 4095) : Met l yX5_disk wsX5_disk ({ frames := 0, cells := 0, slots := 0, locals := 0 }) (va_Pc [.ref g0, .int x] (qm dd cI cZ cR cJ sz [(g0, .inr (5, [.int (nI th), .ref qD, .ref qT, .int (nI U), .int (pI le wl), .int wd, .ref qN, .ref qO, .ref qS, .ref qC, .ref qP, .ref qG, .ref qB, .ref qF, .ref qX]))])) (va_Qi (fun (r : Int32) (u : Unit) => True) (fun u t => qa dd (va_A [(g0, .inr (5, [.int (nI th), .ref qD, .ref qT, .int (nI U), .int (pI le wl), .int wd, .ref qN, .ref qO, .ref qS, .ref qC, .ref qP, .ref qG, .ref qB, .ref qF, .ref qX]))] sz) [(g0, .inr (5, [.int (nI 1), .ref qD, .ref qT, .int (nI U), .int (pI le wl), .int wd, .ref qN, .ref qO, .ref qS, .ref qC, .ref qP, .ref qG, .ref qB, .ref qF, .ref qX]))] t) (va_A [(g0, .inr (5, [.int (nI th), .ref qD, .ref qT, .int (nI U), .int (pI le wl), .int wd, .ref qN, .ref qO, .ref qS, .ref qC, .ref qP, .ref qG, .ref qB, .ref qF, .ref qX]))] sz)) 0 0 (va_A [(g0, .inr (5, [.int (nI th), .ref qD, .ref qT, .int (nI U), .int (pI le wl), .int wd, .ref qN, .ref qO, .ref qS, .ref qC, .ref qP, .ref qG, .ref qB, .ref qF, .ref qX]))] sz) := by
  refine mk_mut (cc := cX5_disk) (maxL := 2) (ret := (some .int)) (Qf := fun A => va_Qi (fun (r : Int32) (u : Unit) => True) (fun u t => qa dd A [(g0, .inr (5, [.int (nI 1), .ref qD, .ref qT, .int (nI U), .int (pI le wl), .int wd, .ref qN, .ref qO, .ref qS, .ref qC, .ref qP, .ref qG, .ref qB, .ref qF, .ref qX]))] t) A) (by decide) rfl (Nat.le_of_ble_eq_true rfl) ?_
  intro p e s m below meth c A hx hb hr hts hown hlocks hml hin hP hD hA hS hK ls hl
  have hown : s.vm.findClass RX5 = some m.cls := hown
  have hl : lv_has ls 2 [(0, .ref g0), (1, .int x)] := hl
  have hf_48 := hts (.fieldLink RX5 48 "RecordSystemModel" "thrown" "I") (by decide +kernel)
  have hin_X5 : ∀ w ∈ wsX50, w ∈ wsX5_disk := by decide +kernel
  refine lv_aload_n hx hb dX5_disk_0 rfl (lv_at hl 0 rfl) ?_
  refine lv_iload_n hx hb dX5_disk_1 rfl (lv_at hl 1 rfl) ?_
  refine lv_if_lt (tgt := 12) hx hb dX5_disk_2 (by decide) (fun c_2 => ?_) (fun c_2 => ?_)
  · refine lv_iconst (v := nI 1) hx hb dX5_disk_12 (by decide) ?_
    refine lv_goto (tgt := 17) hx hb dX5_disk_13 (by decide) ?_
    refine va_put (D := dd) (ci := 5) (v := .int (nI 1)) (ty := .int) (C := RX5) (T := TX5) (N := 15) hx hb hts hin_X5 tyX5 tyX5_ok nmX5 hown hK.1 hP hD hS 0 rfl rfl 0 (by decide) hf_48 (fun _ h9 => h9) rfl (by decide +kernel) rfl rfl (Nat.le_of_ble_eq_true rfl) dX5_disk_17 (fun H locs hP hD hS => ?_)
    have hP : va_P dd vwCl [(g0, .inr (5, [.int (nI 1), .ref qD, .ref qT, .int (nI U), .int (pI le wl), .int wd, .ref qN, .ref qO, .ref qS, .ref qC, .ref qP, .ref qG, .ref qB, .ref qF, .ref qX]))] H := hP
    have hD : va_D A [(g0, .inr (5, [.int (nI 1), .ref qD, .ref qT, .int (nI U), .int (pI le wl), .int wd, .ref qN, .ref qO, .ref qS, .ref qC, .ref qP, .ref qG, .ref qB, .ref qF, .ref qX]))] := hD
    refine lv_aload_n hx hb dX5_disk_20 rfl (lv_at hl 0 rfl) ?_
    refine va_get (D := dd) (ci := 5) (v := .int (nI 1)) (C := RX5) (T := TX5) (N := 15) hx hb hts hin_X5 hown hK.1 hP 0 rfl rfl 0 (by decide) hf_48 (fun _ h9 => h9) rfl dX5_disk_21 ?_
    refine nr_if_le (tgt := 31) hx hb (by omega) dX5_disk_24 (by decide) (fun c_24 => absurd c_24 (by omega)) (fun c_24 => ?_)
    refine lv_iconst (v := nI 0) hx hb dX5_disk_27 (by decide) ?_
    refine lv_goto (tgt := 37) hx hb dX5_disk_28 (by decide) ?_
    have hP9 := hP.sub (ws' := [(g0, .inr (5, [.int (nI 1), .ref qD, .ref qT, .int (nI U), .int (pI le wl), .int wd, .ref qN, .ref qO, .ref qS, .ref qC, .ref qP, .ref qG, .ref qB, .ref qF, .ref qX]))]) [0] rfl
    have hD9 := hD.sub (ws' := [(g0, .inr (5, [.int (nI 1), .ref qD, .ref qT, .int (nI U), .int (pI le wl), .int wd, .ref qN, .ref qO, .ref qS, .ref qC, .ref qP, .ref qG, .ref qB, .ref qF, .ref qX]))]) [0] (by decide) rfl
    exact W.iret (v := nI 0) hx hb hr (fun t ht hW => ⟨⟨nI 0, (), rfl, trivial, by rw [ht]; exact hP9, hD9⟩, hS.F ht⟩) hS.2.2 dX5_disk_37
  · refine lv_iload_n hx hb dX5_disk_5 rfl (lv_at hl 1 rfl) ?_
    refine lv_sipush (v := nI 4095) hx hb dX5_disk_6 (by decide) ?_
    refine lv_icmp_le (tgt := 16) hx hb dX5_disk_9 (by decide) (fun c_9 => absurd c_9 (hbad.resolve_left c_2)) (fun c_9 => ?_)
    refine lv_iconst (v := nI 1) hx hb dX5_disk_12 (by decide) ?_
    refine lv_goto (tgt := 17) hx hb dX5_disk_13 (by decide) ?_
    refine va_put (D := dd) (ci := 5) (v := .int (nI 1)) (ty := .int) (C := RX5) (T := TX5) (N := 15) hx hb hts hin_X5 tyX5 tyX5_ok nmX5 hown hK.1 hP hD hS 0 rfl rfl 0 (by decide) hf_48 (fun _ h9 => h9) rfl (by decide +kernel) rfl rfl (Nat.le_of_ble_eq_true rfl) dX5_disk_17 (fun H locs hP hD hS => ?_)
    have hP : va_P dd vwCl [(g0, .inr (5, [.int (nI 1), .ref qD, .ref qT, .int (nI U), .int (pI le wl), .int wd, .ref qN, .ref qO, .ref qS, .ref qC, .ref qP, .ref qG, .ref qB, .ref qF, .ref qX]))] H := hP
    have hD : va_D A [(g0, .inr (5, [.int (nI 1), .ref qD, .ref qT, .int (nI U), .int (pI le wl), .int wd, .ref qN, .ref qO, .ref qS, .ref qC, .ref qP, .ref qG, .ref qB, .ref qF, .ref qX]))] := hD
    refine lv_aload_n hx hb dX5_disk_20 rfl (lv_at hl 0 rfl) ?_
    refine va_get (D := dd) (ci := 5) (v := .int (nI 1)) (C := RX5) (T := TX5) (N := 15) hx hb hts hin_X5 hown hK.1 hP 0 rfl rfl 0 (by decide) hf_48 (fun _ h9 => h9) rfl dX5_disk_21 ?_
    refine nr_if_le (tgt := 31) hx hb (by omega) dX5_disk_24 (by decide) (fun c_24 => absurd c_24 (by omega)) (fun c_24 => ?_)
    refine lv_iconst (v := nI 0) hx hb dX5_disk_27 (by decide) ?_
    refine lv_goto (tgt := 37) hx hb dX5_disk_28 (by decide) ?_
    have hP9 := hP.sub (ws' := [(g0, .inr (5, [.int (nI 1), .ref qD, .ref qT, .int (nI U), .int (pI le wl), .int wd, .ref qN, .ref qO, .ref qS, .ref qC, .ref qP, .ref qG, .ref qB, .ref qF, .ref qX]))]) [0] rfl
    have hD9 := hD.sub (ws' := [(g0, .inr (5, [.int (nI 1), .ref qD, .ref qT, .int (nI U), .int (pI le wl), .int wd, .ref qN, .ref qO, .ref qS, .ref qC, .ref qP, .ref qG, .ref qB, .ref qF, .ref qX]))]) [0] (by decide) rfl
    exact W.iret (v := nI 0) hx hb hr (fun t ht hW => ⟨⟨nI 0, (), rfl, trivial, by rw [ht]; exact hP9, hD9⟩, hS.F ht⟩) hS.2.2 dX5_disk_37

set_option maxHeartbeats 4000000 in
set_option maxRecDepth 100000 in
theorem kX5_buffer_b1 (l : Launch) (dd : va_G) (cI cZ cR cJ : ClassId) (g0 : Nat) (th : Nat) (U : Nat) (le : Bool) (wl : Nat) (wd : Int32) (qD : Nat) (qT : Nat) (qN : Nat) (qO : Nat) (qS : Nat) (qC : Nat) (qP : Nat) (qG : Nat) (qB : Nat) (qF : Nat) (qX : Nat) (x : Int32) (sz : Nat) (hbad : x < 0 ∨ ¬ x ≤ nI 1) : Met l yX5_buffer wsX5_buffer ({ frames := 0, cells := 0, slots := 0, locals := 0 }) (va_Pc [.ref g0, .int x] (qm dd cI cZ cR cJ sz [(g0, .inr (5, [.int (nI th), .ref qD, .ref qT, .int (nI U), .int (pI le wl), .int wd, .ref qN, .ref qO, .ref qS, .ref qC, .ref qP, .ref qG, .ref qB, .ref qF, .ref qX]))])) (va_Ql (fun (r : Int64) (u : Unit) => True) (fun u t => qa dd (va_A [(g0, .inr (5, [.int (nI th), .ref qD, .ref qT, .int (nI U), .int (pI le wl), .int wd, .ref qN, .ref qO, .ref qS, .ref qC, .ref qP, .ref qG, .ref qB, .ref qF, .ref qX]))] sz) [(g0, .inr (5, [.int (nI 1), .ref qD, .ref qT, .int (nI U), .int (pI le wl), .int wd, .ref qN, .ref qO, .ref qS, .ref qC, .ref qP, .ref qG, .ref qB, .ref qF, .ref qX]))] t) (va_A [(g0, .inr (5, [.int (nI th), .ref qD, .ref qT, .int (nI U), .int (pI le wl), .int wd, .ref qN, .ref qO, .ref qS, .ref qC, .ref qP, .ref qG, .ref qB, .ref qF, .ref qX]))] sz)) 0 0 (va_A [(g0, .inr (5, [.int (nI th), .ref qD, .ref qT, .int (nI U), .int (pI le wl), .int wd, .ref qN, .ref qO, .ref qS, .ref qC, .ref qP, .ref qG, .ref qB, .ref qF, .ref qX]))] sz) := by
  refine mk_mut (cc := cX5_buffer) (maxL := 5) (ret := (some .long)) (Qf := fun A => va_Ql (fun (r : Int64) (u : Unit) => True) (fun u t => qa dd A [(g0, .inr (5, [.int (nI 1), .ref qD, .ref qT, .int (nI U), .int (pI le wl), .int wd, .ref qN, .ref qO, .ref qS, .ref qC, .ref qP, .ref qG, .ref qB, .ref qF, .ref qX]))] t) A) (by decide) rfl (Nat.le_of_ble_eq_true rfl) ?_
  intro p e s m below meth c A hx hb hr hts hown hlocks hml hin hP hD hA hS hK ls hl
  have hown : s.vm.findClass RX5 = some m.cls := hown
  have hl : lv_has ls 5 [(0, .ref g0), (1, .int x)] := hl
  have hf_48 := hts (.fieldLink RX5 48 "RecordSystemModel" "thrown" "I") (by decide +kernel)
  have hin_X5 : ∀ w ∈ wsX50, w ∈ wsX5_buffer := by decide +kernel
  refine lv_aload_n hx hb dX5_buffer_0 rfl (lv_at hl 0 rfl) ?_
  refine lv_iload_n hx hb dX5_buffer_1 rfl (lv_at hl 1 rfl) ?_
  refine lv_if_lt (tgt := 10) hx hb dX5_buffer_2 (by decide) (fun c_2 => ?_) (fun c_2 => ?_)
  · refine lv_iconst (v := nI 1) hx hb dX5_buffer_10 (by decide) ?_
    refine lv_goto (tgt := 15) hx hb dX5_buffer_11 (by decide) ?_
    refine va_put (D := dd) (ci := 5) (v := .int (nI 1)) (ty := .int) (C := RX5) (T := TX5) (N := 15) hx hb hts hin_X5 tyX5 tyX5_ok nmX5 hown hK.1 hP hD hS 0 rfl rfl 0 (by decide) hf_48 (fun _ h9 => h9) rfl (by decide +kernel) rfl rfl (Nat.le_of_ble_eq_true rfl) dX5_buffer_15 (fun H locs hP hD hS => ?_)
    have hP : va_P dd vwCl [(g0, .inr (5, [.int (nI 1), .ref qD, .ref qT, .int (nI U), .int (pI le wl), .int wd, .ref qN, .ref qO, .ref qS, .ref qC, .ref qP, .ref qG, .ref qB, .ref qF, .ref qX]))] H := hP
    have hD : va_D A [(g0, .inr (5, [.int (nI 1), .ref qD, .ref qT, .int (nI U), .int (pI le wl), .int wd, .ref qN, .ref qO, .ref qS, .ref qC, .ref qP, .ref qG, .ref qB, .ref qF, .ref qX]))] := hD
    refine lv_lconst (v := 0) hx hb dX5_buffer_18 (by decide) ?_
    refine lv_lstore_n (lv' := [(2, .long 0), (0, .ref g0), (1, .int x)]) hx hb dX5_buffer_19 rfl hl (by decide) rfl (fun ls hl => ?_)
    refine lv_iconst (v := nI 0) hx hb dX5_buffer_20 (by decide) ?_
    refine lv_istore (lv' := [(4, .int (nI 0)), (2, .long 0), (0, .ref g0), (1, .int x)]) hx hb dX5_buffer_21 hl (by decide) rfl (fun ls hl => ?_)
    refine lv_iload hx hb dX5_buffer_23 (lv_at hl 0 rfl) ?_
    refine lv_bipush (v := nI 8) hx hb dX5_buffer_25 (by decide) ?_
    refine nr_ge (tgt := 65) hx hb (by omega) (by omega) dX5_buffer_27 (by decide) (fun c_27 => absurd c_27 (by omega)) (fun c_27 => ?_)
    refine lv_aload_n hx hb dX5_buffer_30 rfl (lv_at hl 2 rfl) ?_
    refine va_get (D := dd) (ci := 5) (v := .int (nI 1)) (C := RX5) (T := TX5) (N := 15) hx hb hts hin_X5 hown hK.1 hP 0 rfl rfl 0 (by decide) hf_48 (fun _ h9 => h9) rfl dX5_buffer_31 ?_
    refine nr_if_ne (tgt := 65) hx hb (by omega) dX5_buffer_34 (by decide) (fun c_34 => ?_) (fun c_34 => absurd c_34 (by omega))
    refine lv_lload_n hx hb dX5_buffer_65 rfl (lv_at hl 1 rfl) ?_
    have hP9 := hP.sub (ws' := [(g0, .inr (5, [.int (nI 1), .ref qD, .ref qT, .int (nI U), .int (pI le wl), .int wd, .ref qN, .ref qO, .ref qS, .ref qC, .ref qP, .ref qG, .ref qB, .ref qF, .ref qX]))]) [0] rfl
    have hD9 := hD.sub (ws' := [(g0, .inr (5, [.int (nI 1), .ref qD, .ref qT, .int (nI U), .int (pI le wl), .int wd, .ref qN, .ref qO, .ref qS, .ref qC, .ref qP, .ref qG, .ref qB, .ref qF, .ref qX]))]) [0] (by decide) rfl
    exact W.lret (v := 0) hx hb hr (fun t ht hW => ⟨⟨0, (), rfl, trivial, by rw [ht]; exact hP9, hD9⟩, hS.F ht⟩) hS.2.2 dX5_buffer_66
  · refine lv_iload_n hx hb dX5_buffer_5 rfl (lv_at hl 1 rfl) ?_
    refine lv_iconst (v := nI 1) hx hb dX5_buffer_6 (by decide) ?_
    refine lv_icmp_le (tgt := 14) hx hb dX5_buffer_7 (by decide) (fun c_7 => absurd c_7 (hbad.resolve_left c_2)) (fun c_7 => ?_)
    refine lv_iconst (v := nI 1) hx hb dX5_buffer_10 (by decide) ?_
    refine lv_goto (tgt := 15) hx hb dX5_buffer_11 (by decide) ?_
    refine va_put (D := dd) (ci := 5) (v := .int (nI 1)) (ty := .int) (C := RX5) (T := TX5) (N := 15) hx hb hts hin_X5 tyX5 tyX5_ok nmX5 hown hK.1 hP hD hS 0 rfl rfl 0 (by decide) hf_48 (fun _ h9 => h9) rfl (by decide +kernel) rfl rfl (Nat.le_of_ble_eq_true rfl) dX5_buffer_15 (fun H locs hP hD hS => ?_)
    have hP : va_P dd vwCl [(g0, .inr (5, [.int (nI 1), .ref qD, .ref qT, .int (nI U), .int (pI le wl), .int wd, .ref qN, .ref qO, .ref qS, .ref qC, .ref qP, .ref qG, .ref qB, .ref qF, .ref qX]))] H := hP
    have hD : va_D A [(g0, .inr (5, [.int (nI 1), .ref qD, .ref qT, .int (nI U), .int (pI le wl), .int wd, .ref qN, .ref qO, .ref qS, .ref qC, .ref qP, .ref qG, .ref qB, .ref qF, .ref qX]))] := hD
    refine lv_lconst (v := 0) hx hb dX5_buffer_18 (by decide) ?_
    refine lv_lstore_n (lv' := [(2, .long 0), (0, .ref g0), (1, .int x)]) hx hb dX5_buffer_19 rfl hl (by decide) rfl (fun ls hl => ?_)
    refine lv_iconst (v := nI 0) hx hb dX5_buffer_20 (by decide) ?_
    refine lv_istore (lv' := [(4, .int (nI 0)), (2, .long 0), (0, .ref g0), (1, .int x)]) hx hb dX5_buffer_21 hl (by decide) rfl (fun ls hl => ?_)
    refine lv_iload hx hb dX5_buffer_23 (lv_at hl 0 rfl) ?_
    refine lv_bipush (v := nI 8) hx hb dX5_buffer_25 (by decide) ?_
    refine nr_ge (tgt := 65) hx hb (by omega) (by omega) dX5_buffer_27 (by decide) (fun c_27 => absurd c_27 (by omega)) (fun c_27 => ?_)
    refine lv_aload_n hx hb dX5_buffer_30 rfl (lv_at hl 2 rfl) ?_
    refine va_get (D := dd) (ci := 5) (v := .int (nI 1)) (C := RX5) (T := TX5) (N := 15) hx hb hts hin_X5 hown hK.1 hP 0 rfl rfl 0 (by decide) hf_48 (fun _ h9 => h9) rfl dX5_buffer_31 ?_
    refine nr_if_ne (tgt := 65) hx hb (by omega) dX5_buffer_34 (by decide) (fun c_34 => ?_) (fun c_34 => absurd c_34 (by omega))
    refine lv_lload_n hx hb dX5_buffer_65 rfl (lv_at hl 1 rfl) ?_
    have hP9 := hP.sub (ws' := [(g0, .inr (5, [.int (nI 1), .ref qD, .ref qT, .int (nI U), .int (pI le wl), .int wd, .ref qN, .ref qO, .ref qS, .ref qC, .ref qP, .ref qG, .ref qB, .ref qF, .ref qX]))]) [0] rfl
    have hD9 := hD.sub (ws' := [(g0, .inr (5, [.int (nI 1), .ref qD, .ref qT, .int (nI U), .int (pI le wl), .int wd, .ref qN, .ref qO, .ref qS, .ref qC, .ref qP, .ref qG, .ref qB, .ref qF, .ref qX]))]) [0] (by decide) rfl
    exact W.lret (v := 0) hx hb hr (fun t ht hW => ⟨⟨0, (), rfl, trivial, by rw [ht]; exact hP9, hD9⟩, hS.F ht⟩) hS.2.2 dX5_buffer_66

set_option maxHeartbeats 4000000 in
set_option maxRecDepth 100000 in
theorem kX5_search_b1 (l : Launch) (dd : va_G) (cI cZ cR cJ : ClassId) (g0 : Nat) (th : Nat) (U : Nat) (le : Bool) (wl : Nat) (wd : Int32) (qD : Nat) (qT : Nat) (qN : Nat) (qO : Nat) (qS : Nat) (qC : Nat) (qP : Nat) (qG : Nat) (qB : Nat) (qF : Nat) (qX : Nat) (x : Int32) (y : Int32) (sz : Nat) (hbad : x < 0 ∨ ¬ x ≤ nI 3) : Met l yX5_search wsX5_search ({ frames := 0, cells := 0, slots := 0, locals := 0 }) (va_Pc [.ref g0, .int x, .int y] (qm dd cI cZ cR cJ sz [(g0, .inr (5, [.int (nI th), .ref qD, .ref qT, .int (nI U), .int (pI le wl), .int wd, .ref qN, .ref qO, .ref qS, .ref qC, .ref qP, .ref qG, .ref qB, .ref qF, .ref qX]))])) (va_Qi (fun (r : Int32) (u : Unit) => True) (fun u t => qa dd (va_A [(g0, .inr (5, [.int (nI th), .ref qD, .ref qT, .int (nI U), .int (pI le wl), .int wd, .ref qN, .ref qO, .ref qS, .ref qC, .ref qP, .ref qG, .ref qB, .ref qF, .ref qX]))] sz) [(g0, .inr (5, [.int (nI 1), .ref qD, .ref qT, .int (nI U), .int (pI le wl), .int wd, .ref qN, .ref qO, .ref qS, .ref qC, .ref qP, .ref qG, .ref qB, .ref qF, .ref qX]))] t) (va_A [(g0, .inr (5, [.int (nI th), .ref qD, .ref qT, .int (nI U), .int (pI le wl), .int wd, .ref qN, .ref qO, .ref qS, .ref qC, .ref qP, .ref qG, .ref qB, .ref qF, .ref qX]))] sz)) 0 0 (va_A [(g0, .inr (5, [.int (nI th), .ref qD, .ref qT, .int (nI U), .int (pI le wl), .int wd, .ref qN, .ref qO, .ref qS, .ref qC, .ref qP, .ref qG, .ref qB, .ref qF, .ref qX]))] sz) := by
  refine mk_mut (cc := cX5_search) (maxL := 3) (ret := (some .int)) (Qf := fun A => va_Qi (fun (r : Int32) (u : Unit) => True) (fun u t => qa dd A [(g0, .inr (5, [.int (nI 1), .ref qD, .ref qT, .int (nI U), .int (pI le wl), .int wd, .ref qN, .ref qO, .ref qS, .ref qC, .ref qP, .ref qG, .ref qB, .ref qF, .ref qX]))] t) A) (by decide) rfl (Nat.le_of_ble_eq_true rfl) ?_
  intro p e s m below meth c A hx hb hr hts hown hlocks hml hin hP hD hA hS hK ls hl
  have hown : s.vm.findClass RX5 = some m.cls := hown
  have hl : lv_has ls 3 [(0, .ref g0), (1, .int x), (2, .int y)] := hl
  have hf_48 := hts (.fieldLink RX5 48 "RecordSystemModel" "thrown" "I") (by decide +kernel)
  have hin_X5 : ∀ w ∈ wsX50, w ∈ wsX5_search := by decide +kernel
  refine lv_aload_n hx hb dX5_search_0 rfl (lv_at hl 0 rfl) ?_
  refine lv_iload_n hx hb dX5_search_1 rfl (lv_at hl 1 rfl) ?_
  refine lv_if_lt (tgt := 10) hx hb dX5_search_2 (by decide) (fun c_2 => ?_) (fun c_2 => ?_)
  · refine lv_iconst (v := nI 1) hx hb dX5_search_10 (by decide) ?_
    refine lv_goto (tgt := 29) hx hb dX5_search_11 (by decide) ?_
    refine va_put (D := dd) (ci := 5) (v := .int (nI 1)) (ty := .int) (C := RX5) (T := TX5) (N := 15) hx hb hts hin_X5 tyX5 tyX5_ok nmX5 hown hK.1 hP hD hS 0 rfl rfl 0 (by decide) hf_48 (fun _ h9 => h9) rfl (by decide +kernel) rfl rfl (Nat.le_of_ble_eq_true rfl) dX5_search_29 (fun H locs hP hD hS => ?_)
    have hP : va_P dd vwCl [(g0, .inr (5, [.int (nI 1), .ref qD, .ref qT, .int (nI U), .int (pI le wl), .int wd, .ref qN, .ref qO, .ref qS, .ref qC, .ref qP, .ref qG, .ref qB, .ref qF, .ref qX]))] H := hP
    have hD : va_D A [(g0, .inr (5, [.int (nI 1), .ref qD, .ref qT, .int (nI U), .int (pI le wl), .int wd, .ref qN, .ref qO, .ref qS, .ref qC, .ref qP, .ref qG, .ref qB, .ref qF, .ref qX]))] := hD
    refine lv_aload_n hx hb dX5_search_32 rfl (lv_at hl 0 rfl) ?_
    refine va_get (D := dd) (ci := 5) (v := .int (nI 1)) (C := RX5) (T := TX5) (N := 15) hx hb hts hin_X5 hown hK.1 hP 0 rfl rfl 0 (by decide) hf_48 (fun _ h9 => h9) rfl dX5_search_33 ?_
    refine nr_if_le (tgt := 43) hx hb (by omega) dX5_search_36 (by decide) (fun c_36 => absurd c_36 (by omega)) (fun c_36 => ?_)
    refine lv_iconst (v := nI 0) hx hb dX5_search_39 (by decide) ?_
    refine lv_goto (tgt := 50) hx hb dX5_search_40 (by decide) ?_
    have hP9 := hP.sub (ws' := [(g0, .inr (5, [.int (nI 1), .ref qD, .ref qT, .int (nI U), .int (pI le wl), .int wd, .ref qN, .ref qO, .ref qS, .ref qC, .ref qP, .ref qG, .ref qB, .ref qF, .ref qX]))]) [0] rfl
    have hD9 := hD.sub (ws' := [(g0, .inr (5, [.int (nI 1), .ref qD, .ref qT, .int (nI U), .int (pI le wl), .int wd, .ref qN, .ref qO, .ref qS, .ref qC, .ref qP, .ref qG, .ref qB, .ref qF, .ref qX]))]) [0] (by decide) rfl
    exact W.iret (v := nI 0) hx hb hr (fun t ht hW => ⟨⟨nI 0, (), rfl, trivial, by rw [ht]; exact hP9, hD9⟩, hS.F ht⟩) hS.2.2 dX5_search_50
  · refine lv_iload_n hx hb dX5_search_5 rfl (lv_at hl 1 rfl) ?_
    refine lv_iconst (v := nI 3) hx hb dX5_search_6 (by decide) ?_
    refine lv_icmp_le (tgt := 14) hx hb dX5_search_7 (by decide) (fun c_7 => absurd c_7 (hbad.resolve_left c_2)) (fun c_7 => ?_)
    refine lv_iconst (v := nI 1) hx hb dX5_search_10 (by decide) ?_
    refine lv_goto (tgt := 29) hx hb dX5_search_11 (by decide) ?_
    refine va_put (D := dd) (ci := 5) (v := .int (nI 1)) (ty := .int) (C := RX5) (T := TX5) (N := 15) hx hb hts hin_X5 tyX5 tyX5_ok nmX5 hown hK.1 hP hD hS 0 rfl rfl 0 (by decide) hf_48 (fun _ h9 => h9) rfl (by decide +kernel) rfl rfl (Nat.le_of_ble_eq_true rfl) dX5_search_29 (fun H locs hP hD hS => ?_)
    have hP : va_P dd vwCl [(g0, .inr (5, [.int (nI 1), .ref qD, .ref qT, .int (nI U), .int (pI le wl), .int wd, .ref qN, .ref qO, .ref qS, .ref qC, .ref qP, .ref qG, .ref qB, .ref qF, .ref qX]))] H := hP
    have hD : va_D A [(g0, .inr (5, [.int (nI 1), .ref qD, .ref qT, .int (nI U), .int (pI le wl), .int wd, .ref qN, .ref qO, .ref qS, .ref qC, .ref qP, .ref qG, .ref qB, .ref qF, .ref qX]))] := hD
    refine lv_aload_n hx hb dX5_search_32 rfl (lv_at hl 0 rfl) ?_
    refine va_get (D := dd) (ci := 5) (v := .int (nI 1)) (C := RX5) (T := TX5) (N := 15) hx hb hts hin_X5 hown hK.1 hP 0 rfl rfl 0 (by decide) hf_48 (fun _ h9 => h9) rfl dX5_search_33 ?_
    refine nr_if_le (tgt := 43) hx hb (by omega) dX5_search_36 (by decide) (fun c_36 => absurd c_36 (by omega)) (fun c_36 => ?_)
    refine lv_iconst (v := nI 0) hx hb dX5_search_39 (by decide) ?_
    refine lv_goto (tgt := 50) hx hb dX5_search_40 (by decide) ?_
    have hP9 := hP.sub (ws' := [(g0, .inr (5, [.int (nI 1), .ref qD, .ref qT, .int (nI U), .int (pI le wl), .int wd, .ref qN, .ref qO, .ref qS, .ref qC, .ref qP, .ref qG, .ref qB, .ref qF, .ref qX]))]) [0] rfl
    have hD9 := hD.sub (ws' := [(g0, .inr (5, [.int (nI 1), .ref qD, .ref qT, .int (nI U), .int (pI le wl), .int wd, .ref qN, .ref qO, .ref qS, .ref qC, .ref qP, .ref qG, .ref qB, .ref qF, .ref qX]))]) [0] (by decide) rfl
    exact W.iret (v := nI 0) hx hb hr (fun t ht hW => ⟨⟨nI 0, (), rfl, trivial, by rw [ht]; exact hP9, hD9⟩, hS.F ht⟩) hS.2.2 dX5_search_50

set_option maxHeartbeats 4000000 in
set_option maxRecDepth 100000 in
theorem kX5_at_b1 (l : Launch) (dd : va_G) (cI cZ cR cJ : ClassId) (g0 : Nat) (th : Nat) (U : Nat) (le : Bool) (wl : Nat) (wd : Int32) (qD : Nat) (qT : Nat) (qN : Nat) (qO : Nat) (qS : Nat) (qC : Nat) (qP : Nat) (qG : Nat) (qB : Nat) (qF : Nat) (qX : Nat) (x : Int32) (y : Int32) (puts : Bool) (sz : Nat) (hbad : x < 0 ∨ ¬ x ≤ nI 3) : Met l yX5_at wsX5_at ({ frames := 0, cells := 0, slots := 0, locals := 0 }) (va_Pc [.ref g0, .int x, .int y, .int (bI puts)] (qm dd cI cZ cR cJ sz [(g0, .inr (5, [.int (nI th), .ref qD, .ref qT, .int (nI U), .int (pI le wl), .int wd, .ref qN, .ref qO, .ref qS, .ref qC, .ref qP, .ref qG, .ref qB, .ref qF, .ref qX]))])) (va_Qi (fun (r : Int32) (u : Unit) => True) (fun u t => qa dd (va_A [(g0, .inr (5, [.int (nI th), .ref qD, .ref qT, .int (nI U), .int (pI le wl), .int wd, .ref qN, .ref qO, .ref qS, .ref qC, .ref qP, .ref qG, .ref qB, .ref qF, .ref qX]))] sz) [(g0, .inr (5, [.int (nI 1), .ref qD, .ref qT, .int (nI U), .int (pI le wl), .int wd, .ref qN, .ref qO, .ref qS, .ref qC, .ref qP, .ref qG, .ref qB, .ref qF, .ref qX]))] t) (va_A [(g0, .inr (5, [.int (nI th), .ref qD, .ref qT, .int (nI U), .int (pI le wl), .int wd, .ref qN, .ref qO, .ref qS, .ref qC, .ref qP, .ref qG, .ref qB, .ref qF, .ref qX]))] sz)) 0 0 (va_A [(g0, .inr (5, [.int (nI th), .ref qD, .ref qT, .int (nI U), .int (pI le wl), .int wd, .ref qN, .ref qO, .ref qS, .ref qC, .ref qP, .ref qG, .ref qB, .ref qF, .ref qX]))] sz) := by
  refine mk_mut (cc := cX5_at) (maxL := 5) (ret := (some .int)) (Qf := fun A => va_Qi (fun (r : Int32) (u : Unit) => True) (fun u t => qa dd A [(g0, .inr (5, [.int (nI 1), .ref qD, .ref qT, .int (nI U), .int (pI le wl), .int wd, .ref qN, .ref qO, .ref qS, .ref qC, .ref qP, .ref qG, .ref qB, .ref qF, .ref qX]))] t) A) (by decide) rfl (Nat.le_of_ble_eq_true rfl) ?_
  intro p e s m below meth c A hx hb hr hts hown hlocks hml hin hP hD hA hS hK ls hl
  have hown : s.vm.findClass RX5 = some m.cls := hown
  have hl : lv_has ls 5 [(0, .ref g0), (1, .int x), (2, .int y), (3, .int (bI puts))] := hl
  have hf_48 := hts (.fieldLink RX5 48 "RecordSystemModel" "thrown" "I") (by decide +kernel)
  have hin_X5 : ∀ w ∈ wsX50, w ∈ wsX5_at := by decide +kernel
  refine lv_aload_n hx hb dX5_at_0 rfl (lv_at hl 0 rfl) ?_
  refine lv_iload_n hx hb dX5_at_1 rfl (lv_at hl 1 rfl) ?_
  refine lv_if_lt (tgt := 10) hx hb dX5_at_2 (by decide) (fun c_2 => ?_) (fun c_2 => ?_)
  · refine lv_iconst (v := nI 1) hx hb dX5_at_10 (by decide) ?_
    refine lv_goto (tgt := 29) hx hb dX5_at_11 (by decide) ?_
    refine va_put (D := dd) (ci := 5) (v := .int (nI 1)) (ty := .int) (C := RX5) (T := TX5) (N := 15) hx hb hts hin_X5 tyX5 tyX5_ok nmX5 hown hK.1 hP hD hS 0 rfl rfl 0 (by decide) hf_48 (fun _ h9 => h9) rfl (by decide +kernel) rfl rfl (Nat.le_of_ble_eq_true rfl) dX5_at_29 (fun H locs hP hD hS => ?_)
    have hP : va_P dd vwCl [(g0, .inr (5, [.int (nI 1), .ref qD, .ref qT, .int (nI U), .int (pI le wl), .int wd, .ref qN, .ref qO, .ref qS, .ref qC, .ref qP, .ref qG, .ref qB, .ref qF, .ref qX]))] H := hP
    have hD : va_D A [(g0, .inr (5, [.int (nI 1), .ref qD, .ref qT, .int (nI U), .int (pI le wl), .int wd, .ref qN, .ref qO, .ref qS, .ref qC, .ref qP, .ref qG, .ref qB, .ref qF, .ref qX]))] := hD
    refine lv_aload_n hx hb dX5_at_32 rfl (lv_at hl 0 rfl) ?_
    refine va_get (D := dd) (ci := 5) (v := .int (nI 1)) (C := RX5) (T := TX5) (N := 15) hx hb hts hin_X5 hown hK.1 hP 0 rfl rfl 0 (by decide) hf_48 (fun _ h9 => h9) rfl dX5_at_33 ?_
    refine nr_if_le (tgt := 41) hx hb (by omega) dX5_at_36 (by decide) (fun c_36 => absurd c_36 (by omega)) (fun c_36 => ?_)
    refine lv_iconst (v := nI 0) hx hb dX5_at_39 (by decide) ?_
    have hP9 := hP.sub (ws' := [(g0, .inr (5, [.int (nI 1), .ref qD, .ref qT, .int (nI U), .int (pI le wl), .int wd, .ref qN, .ref qO, .ref qS, .ref qC, .ref qP, .ref qG, .ref qB, .ref qF, .ref qX]))]) [0] rfl
    have hD9 := hD.sub (ws' := [(g0, .inr (5, [.int (nI 1), .ref qD, .ref qT, .int (nI U), .int (pI le wl), .int wd, .ref qN, .ref qO, .ref qS, .ref qC, .ref qP, .ref qG, .ref qB, .ref qF, .ref qX]))]) [0] (by decide) rfl
    exact W.iret (v := nI 0) hx hb hr (fun t ht hW => ⟨⟨nI 0, (), rfl, trivial, by rw [ht]; exact hP9, hD9⟩, hS.F ht⟩) hS.2.2 dX5_at_40
  · refine lv_iload_n hx hb dX5_at_5 rfl (lv_at hl 1 rfl) ?_
    refine lv_iconst (v := nI 3) hx hb dX5_at_6 (by decide) ?_
    refine lv_icmp_le (tgt := 14) hx hb dX5_at_7 (by decide) (fun c_7 => absurd c_7 (hbad.resolve_left c_2)) (fun c_7 => ?_)
    refine lv_iconst (v := nI 1) hx hb dX5_at_10 (by decide) ?_
    refine lv_goto (tgt := 29) hx hb dX5_at_11 (by decide) ?_
    refine va_put (D := dd) (ci := 5) (v := .int (nI 1)) (ty := .int) (C := RX5) (T := TX5) (N := 15) hx hb hts hin_X5 tyX5 tyX5_ok nmX5 hown hK.1 hP hD hS 0 rfl rfl 0 (by decide) hf_48 (fun _ h9 => h9) rfl (by decide +kernel) rfl rfl (Nat.le_of_ble_eq_true rfl) dX5_at_29 (fun H locs hP hD hS => ?_)
    have hP : va_P dd vwCl [(g0, .inr (5, [.int (nI 1), .ref qD, .ref qT, .int (nI U), .int (pI le wl), .int wd, .ref qN, .ref qO, .ref qS, .ref qC, .ref qP, .ref qG, .ref qB, .ref qF, .ref qX]))] H := hP
    have hD : va_D A [(g0, .inr (5, [.int (nI 1), .ref qD, .ref qT, .int (nI U), .int (pI le wl), .int wd, .ref qN, .ref qO, .ref qS, .ref qC, .ref qP, .ref qG, .ref qB, .ref qF, .ref qX]))] := hD
    refine lv_aload_n hx hb dX5_at_32 rfl (lv_at hl 0 rfl) ?_
    refine va_get (D := dd) (ci := 5) (v := .int (nI 1)) (C := RX5) (T := TX5) (N := 15) hx hb hts hin_X5 hown hK.1 hP 0 rfl rfl 0 (by decide) hf_48 (fun _ h9 => h9) rfl dX5_at_33 ?_
    refine nr_if_le (tgt := 41) hx hb (by omega) dX5_at_36 (by decide) (fun c_36 => absurd c_36 (by omega)) (fun c_36 => ?_)
    refine lv_iconst (v := nI 0) hx hb dX5_at_39 (by decide) ?_
    have hP9 := hP.sub (ws' := [(g0, .inr (5, [.int (nI 1), .ref qD, .ref qT, .int (nI U), .int (pI le wl), .int wd, .ref qN, .ref qO, .ref qS, .ref qC, .ref qP, .ref qG, .ref qB, .ref qF, .ref qX]))]) [0] rfl
    have hD9 := hD.sub (ws' := [(g0, .inr (5, [.int (nI 1), .ref qD, .ref qT, .int (nI U), .int (pI le wl), .int wd, .ref qN, .ref qO, .ref qS, .ref qC, .ref qP, .ref qG, .ref qB, .ref qF, .ref qX]))]) [0] (by decide) rfl
    exact W.iret (v := nI 0) hx hb hr (fun t ht hW => ⟨⟨nI 0, (), rfl, trivial, by rw [ht]; exact hP9, hD9⟩, hS.F ht⟩) hS.2.2 dX5_at_40

set_option maxHeartbeats 4000000 in
set_option maxRecDepth 100000 in
theorem kX5_has_b1 (l : Launch) (dd : va_G) (cI cZ cR cJ : ClassId) (g0 : Nat) (th : Nat) (U : Nat) (le : Bool) (wl : Nat) (wd : Int32) (qD : Nat) (qT : Nat) (qN : Nat) (qO : Nat) (qS : Nat) (qC : Nat) (qP : Nat) (qG : Nat) (qB : Nat) (qF : Nat) (qX : Nat) (x : Int32) (y : Int32) (sz : Nat) (hbad : x < 0 ∨ ¬ x ≤ nI 3) : Met l yX5_has wsX5_has ({ frames := 0, cells := 0, slots := 0, locals := 0 }) (va_Pc [.ref g0, .int x, .int y] (qm dd cI cZ cR cJ sz [(g0, .inr (5, [.int (nI th), .ref qD, .ref qT, .int (nI U), .int (pI le wl), .int wd, .ref qN, .ref qO, .ref qS, .ref qC, .ref qP, .ref qG, .ref qB, .ref qF, .ref qX]))])) (va_Qi (fun (r : Int32) (u : Unit) => True) (fun u t => qa dd (va_A [(g0, .inr (5, [.int (nI th), .ref qD, .ref qT, .int (nI U), .int (pI le wl), .int wd, .ref qN, .ref qO, .ref qS, .ref qC, .ref qP, .ref qG, .ref qB, .ref qF, .ref qX]))] sz) [(g0, .inr (5, [.int (nI 1), .ref qD, .ref qT, .int (nI U), .int (pI le wl), .int wd, .ref qN, .ref qO, .ref qS, .ref qC, .ref qP, .ref qG, .ref qB, .ref qF, .ref qX]))] t) (va_A [(g0, .inr (5, [.int (nI th), .ref qD, .ref qT, .int (nI U), .int (pI le wl), .int wd, .ref qN, .ref qO, .ref qS, .ref qC, .ref qP, .ref qG, .ref qB, .ref qF, .ref qX]))] sz)) 0 0 (va_A [(g0, .inr (5, [.int (nI th), .ref qD, .ref qT, .int (nI U), .int (pI le wl), .int wd, .ref qN, .ref qO, .ref qS, .ref qC, .ref qP, .ref qG, .ref qB, .ref qF, .ref qX]))] sz) := by
  refine mk_mut (cc := cX5_has) (maxL := 3) (ret := (some .int)) (Qf := fun A => va_Qi (fun (r : Int32) (u : Unit) => True) (fun u t => qa dd A [(g0, .inr (5, [.int (nI 1), .ref qD, .ref qT, .int (nI U), .int (pI le wl), .int wd, .ref qN, .ref qO, .ref qS, .ref qC, .ref qP, .ref qG, .ref qB, .ref qF, .ref qX]))] t) A) (by decide) rfl (Nat.le_of_ble_eq_true rfl) ?_
  intro p e s m below meth c A hx hb hr hts hown hlocks hml hin hP hD hA hS hK ls hl
  have hown : s.vm.findClass RX5 = some m.cls := hown
  have hl : lv_has ls 3 [(0, .ref g0), (1, .int x), (2, .int y)] := hl
  have hf_48 := hts (.fieldLink RX5 48 "RecordSystemModel" "thrown" "I") (by decide +kernel)
  have hin_X5 : ∀ w ∈ wsX50, w ∈ wsX5_has := by decide +kernel
  refine lv_aload_n hx hb dX5_has_0 rfl (lv_at hl 0 rfl) ?_
  refine lv_iload_n hx hb dX5_has_1 rfl (lv_at hl 1 rfl) ?_
  refine lv_if_lt (tgt := 10) hx hb dX5_has_2 (by decide) (fun c_2 => ?_) (fun c_2 => ?_)
  · refine lv_iconst (v := nI 1) hx hb dX5_has_10 (by decide) ?_
    refine lv_goto (tgt := 29) hx hb dX5_has_11 (by decide) ?_
    refine va_put (D := dd) (ci := 5) (v := .int (nI 1)) (ty := .int) (C := RX5) (T := TX5) (N := 15) hx hb hts hin_X5 tyX5 tyX5_ok nmX5 hown hK.1 hP hD hS 0 rfl rfl 0 (by decide) hf_48 (fun _ h9 => h9) rfl (by decide +kernel) rfl rfl (Nat.le_of_ble_eq_true rfl) dX5_has_29 (fun H locs hP hD hS => ?_)
    have hP : va_P dd vwCl [(g0, .inr (5, [.int (nI 1), .ref qD, .ref qT, .int (nI U), .int (pI le wl), .int wd, .ref qN, .ref qO, .ref qS, .ref qC, .ref qP, .ref qG, .ref qB, .ref qF, .ref qX]))] H := hP
    have hD : va_D A [(g0, .inr (5, [.int (nI 1), .ref qD, .ref qT, .int (nI U), .int (pI le wl), .int wd, .ref qN, .ref qO, .ref qS, .ref qC, .ref qP, .ref qG, .ref qB, .ref qF, .ref qX]))] := hD
    refine lv_aload_n hx hb dX5_has_32 rfl (lv_at hl 0 rfl) ?_
    refine va_get (D := dd) (ci := 5) (v := .int (nI 1)) (C := RX5) (T := TX5) (N := 15) hx hb hts hin_X5 hown hK.1 hP 0 rfl rfl 0 (by decide) hf_48 (fun _ h9 => h9) rfl dX5_has_33 ?_
    refine nr_if_gt (tgt := 48) hx hb (by omega) dX5_has_36 (by decide) (fun c_36 => ?_) (fun c_36 => absurd c_36 (by omega))
    refine lv_iconst (v := nI 0) hx hb dX5_has_48 (by decide) ?_
    have hP9 := hP.sub (ws' := [(g0, .inr (5, [.int (nI 1), .ref qD, .ref qT, .int (nI U), .int (pI le wl), .int wd, .ref qN, .ref qO, .ref qS, .ref qC, .ref qP, .ref qG, .ref qB, .ref qF, .ref qX]))]) [0] rfl
    have hD9 := hD.sub (ws' := [(g0, .inr (5, [.int (nI 1), .ref qD, .ref qT, .int (nI U), .int (pI le wl), .int wd, .ref qN, .ref qO, .ref qS, .ref qC, .ref qP, .ref qG, .ref qB, .ref qF, .ref qX]))]) [0] (by decide) rfl
    exact W.iret (v := nI 0) hx hb hr (fun t ht hW => ⟨⟨nI 0, (), rfl, trivial, by rw [ht]; exact hP9, hD9⟩, hS.F ht⟩) hS.2.2 dX5_has_49
  · refine lv_iload_n hx hb dX5_has_5 rfl (lv_at hl 1 rfl) ?_
    refine lv_iconst (v := nI 3) hx hb dX5_has_6 (by decide) ?_
    refine lv_icmp_le (tgt := 14) hx hb dX5_has_7 (by decide) (fun c_7 => absurd c_7 (hbad.resolve_left c_2)) (fun c_7 => ?_)
    refine lv_iconst (v := nI 1) hx hb dX5_has_10 (by decide) ?_
    refine lv_goto (tgt := 29) hx hb dX5_has_11 (by decide) ?_
    refine va_put (D := dd) (ci := 5) (v := .int (nI 1)) (ty := .int) (C := RX5) (T := TX5) (N := 15) hx hb hts hin_X5 tyX5 tyX5_ok nmX5 hown hK.1 hP hD hS 0 rfl rfl 0 (by decide) hf_48 (fun _ h9 => h9) rfl (by decide +kernel) rfl rfl (Nat.le_of_ble_eq_true rfl) dX5_has_29 (fun H locs hP hD hS => ?_)
    have hP : va_P dd vwCl [(g0, .inr (5, [.int (nI 1), .ref qD, .ref qT, .int (nI U), .int (pI le wl), .int wd, .ref qN, .ref qO, .ref qS, .ref qC, .ref qP, .ref qG, .ref qB, .ref qF, .ref qX]))] H := hP
    have hD : va_D A [(g0, .inr (5, [.int (nI 1), .ref qD, .ref qT, .int (nI U), .int (pI le wl), .int wd, .ref qN, .ref qO, .ref qS, .ref qC, .ref qP, .ref qG, .ref qB, .ref qF, .ref qX]))] := hD
    refine lv_aload_n hx hb dX5_has_32 rfl (lv_at hl 0 rfl) ?_
    refine va_get (D := dd) (ci := 5) (v := .int (nI 1)) (C := RX5) (T := TX5) (N := 15) hx hb hts hin_X5 hown hK.1 hP 0 rfl rfl 0 (by decide) hf_48 (fun _ h9 => h9) rfl dX5_has_33 ?_
    refine nr_if_gt (tgt := 48) hx hb (by omega) dX5_has_36 (by decide) (fun c_36 => ?_) (fun c_36 => absurd c_36 (by omega))
    refine lv_iconst (v := nI 0) hx hb dX5_has_48 (by decide) ?_
    have hP9 := hP.sub (ws' := [(g0, .inr (5, [.int (nI 1), .ref qD, .ref qT, .int (nI U), .int (pI le wl), .int wd, .ref qN, .ref qO, .ref qS, .ref qC, .ref qP, .ref qG, .ref qB, .ref qF, .ref qX]))]) [0] rfl
    have hD9 := hD.sub (ws' := [(g0, .inr (5, [.int (nI 1), .ref qD, .ref qT, .int (nI U), .int (pI le wl), .int wd, .ref qN, .ref qO, .ref qS, .ref qC, .ref qP, .ref qG, .ref qB, .ref qF, .ref qX]))]) [0] (by decide) rfl
    exact W.iret (v := nI 0) hx hb hr (fun t ht hW => ⟨⟨nI 0, (), rfl, trivial, by rw [ht]; exact hP9, hD9⟩, hS.F ht⟩) hS.2.2 dX5_has_49

set_option maxHeartbeats 4000000 in
set_option maxRecDepth 100000 in
theorem kX5_set_b1 (l : Launch) (dd : va_G) (cI cZ cR cJ : ClassId) (g0 : Nat) (th : Nat) (U : Nat) (le : Bool) (wl : Nat) (wd : Int32) (qD : Nat) (qT : Nat) (qN : Nat) (qO : Nat) (qS : Nat) (qC : Nat) (qP : Nat) (qG : Nat) (qB : Nat) (qF : Nat) (qX : Nat) (x : Int32) (y : Int32) (sz : Nat) (hbad : x < 0 ∨ ¬ x ≤ nI 15) : Met l yX5_set wsX5_set ({ frames := 0, cells := 0, slots := 0, locals := 0 }) (va_Pc [.ref g0, .int x, .int y] (qm dd cI cZ cR cJ sz [(g0, .inr (5, [.int (nI th), .ref qD, .ref qT, .int (nI U), .int (pI le wl), .int wd, .ref qN, .ref qO, .ref qS, .ref qC, .ref qP, .ref qG, .ref qB, .ref qF, .ref qX]))])) (va_Qi (fun (r : Int32) (u : Unit) => True) (fun u t => qa dd (va_A [(g0, .inr (5, [.int (nI th), .ref qD, .ref qT, .int (nI U), .int (pI le wl), .int wd, .ref qN, .ref qO, .ref qS, .ref qC, .ref qP, .ref qG, .ref qB, .ref qF, .ref qX]))] sz) [(g0, .inr (5, [.int (nI 1), .ref qD, .ref qT, .int (nI U), .int (pI le wl), .int wd, .ref qN, .ref qO, .ref qS, .ref qC, .ref qP, .ref qG, .ref qB, .ref qF, .ref qX]))] t) (va_A [(g0, .inr (5, [.int (nI th), .ref qD, .ref qT, .int (nI U), .int (pI le wl), .int wd, .ref qN, .ref qO, .ref qS, .ref qC, .ref qP, .ref qG, .ref qB, .ref qF, .ref qX]))] sz)) 0 0 (va_A [(g0, .inr (5, [.int (nI th), .ref qD, .ref qT, .int (nI U), .int (pI le wl), .int wd, .ref qN, .ref qO, .ref qS, .ref qC, .ref qP, .ref qG, .ref qB, .ref qF, .ref qX]))] sz) := by
  refine mk_mut (cc := cX5_set) (maxL := 4) (ret := (some .int)) (Qf := fun A => va_Qi (fun (r : Int32) (u : Unit) => True) (fun u t => qa dd A [(g0, .inr (5, [.int (nI 1), .ref qD, .ref qT, .int (nI U), .int (pI le wl), .int wd, .ref qN, .ref qO, .ref qS, .ref qC, .ref qP, .ref qG, .ref qB, .ref qF, .ref qX]))] t) A) (by decide) rfl (Nat.le_of_ble_eq_true rfl) ?_
  intro p e s m below meth c A hx hb hr hts hown hlocks hml hin hP hD hA hS hK ls hl
  have hown : s.vm.findClass RX5 = some m.cls := hown
  have hl : lv_has ls 4 [(0, .ref g0), (1, .int x), (2, .int y)] := hl
  have hf_48 := hts (.fieldLink RX5 48 "RecordSystemModel" "thrown" "I") (by decide +kernel)
  have hin_X5 : ∀ w ∈ wsX50, w ∈ wsX5_set := by decide +kernel
  refine lv_aload_n hx hb dX5_set_0 rfl (lv_at hl 0 rfl) ?_
  refine lv_iload_n hx hb dX5_set_1 rfl (lv_at hl 1 rfl) ?_
  refine lv_if_lt (tgt := 11) hx hb dX5_set_2 (by decide) (fun c_2 => ?_) (fun c_2 => ?_)
  · refine lv_iconst (v := nI 1) hx hb dX5_set_11 (by decide) ?_
    refine lv_goto (tgt := 31) hx hb dX5_set_12 (by decide) ?_
    refine va_put (D := dd) (ci := 5) (v := .int (nI 1)) (ty := .int) (C := RX5) (T := TX5) (N := 15) hx hb hts hin_X5 tyX5 tyX5_ok nmX5 hown hK.1 hP hD hS 0 rfl rfl 0 (by decide) hf_48 (fun _ h9 => h9) rfl (by decide +kernel) rfl rfl (Nat.le_of_ble_eq_true rfl) dX5_set_31 (fun H locs hP hD hS => ?_)
    have hP : va_P dd vwCl [(g0, .inr (5, [.int (nI 1), .ref qD, .ref qT, .int (nI U), .int (pI le wl), .int wd, .ref qN, .ref qO, .ref qS, .ref qC, .ref qP, .ref qG, .ref qB, .ref qF, .ref qX]))] H := hP
    have hD : va_D A [(g0, .inr (5, [.int (nI 1), .ref qD, .ref qT, .int (nI U), .int (pI le wl), .int wd, .ref qN, .ref qO, .ref qS, .ref qC, .ref qP, .ref qG, .ref qB, .ref qF, .ref qX]))] := hD
    refine lv_aload_n hx hb dX5_set_34 rfl (lv_at hl 0 rfl) ?_
    refine va_get (D := dd) (ci := 5) (v := .int (nI 1)) (C := RX5) (T := TX5) (N := 15) hx hb hts hin_X5 hown hK.1 hP 0 rfl rfl 0 (by decide) hf_48 (fun _ h9 => h9) rfl dX5_set_35 ?_
    refine nr_if_le (tgt := 43) hx hb (by omega) dX5_set_38 (by decide) (fun c_38 => absurd c_38 (by omega)) (fun c_38 => ?_)
    refine lv_iconst (v := nI 0) hx hb dX5_set_41 (by decide) ?_
    have hP9 := hP.sub (ws' := [(g0, .inr (5, [.int (nI 1), .ref qD, .ref qT, .int (nI U), .int (pI le wl), .int wd, .ref qN, .ref qO, .ref qS, .ref qC, .ref qP, .ref qG, .ref qB, .ref qF, .ref qX]))]) [0] rfl
    have hD9 := hD.sub (ws' := [(g0, .inr (5, [.int (nI 1), .ref qD, .ref qT, .int (nI U), .int (pI le wl), .int wd, .ref qN, .ref qO, .ref qS, .ref qC, .ref qP, .ref qG, .ref qB, .ref qF, .ref qX]))]) [0] (by decide) rfl
    exact W.iret (v := nI 0) hx hb hr (fun t ht hW => ⟨⟨nI 0, (), rfl, trivial, by rw [ht]; exact hP9, hD9⟩, hS.F ht⟩) hS.2.2 dX5_set_42
  · refine lv_iload_n hx hb dX5_set_5 rfl (lv_at hl 1 rfl) ?_
    refine lv_bipush (v := nI 15) hx hb dX5_set_6 (by decide) ?_
    refine lv_icmp_le (tgt := 15) hx hb dX5_set_8 (by decide) (fun c_8 => absurd c_8 (hbad.resolve_left c_2)) (fun c_8 => ?_)
    refine lv_iconst (v := nI 1) hx hb dX5_set_11 (by decide) ?_
    refine lv_goto (tgt := 31) hx hb dX5_set_12 (by decide) ?_
    refine va_put (D := dd) (ci := 5) (v := .int (nI 1)) (ty := .int) (C := RX5) (T := TX5) (N := 15) hx hb hts hin_X5 tyX5 tyX5_ok nmX5 hown hK.1 hP hD hS 0 rfl rfl 0 (by decide) hf_48 (fun _ h9 => h9) rfl (by decide +kernel) rfl rfl (Nat.le_of_ble_eq_true rfl) dX5_set_31 (fun H locs hP hD hS => ?_)
    have hP : va_P dd vwCl [(g0, .inr (5, [.int (nI 1), .ref qD, .ref qT, .int (nI U), .int (pI le wl), .int wd, .ref qN, .ref qO, .ref qS, .ref qC, .ref qP, .ref qG, .ref qB, .ref qF, .ref qX]))] H := hP
    have hD : va_D A [(g0, .inr (5, [.int (nI 1), .ref qD, .ref qT, .int (nI U), .int (pI le wl), .int wd, .ref qN, .ref qO, .ref qS, .ref qC, .ref qP, .ref qG, .ref qB, .ref qF, .ref qX]))] := hD
    refine lv_aload_n hx hb dX5_set_34 rfl (lv_at hl 0 rfl) ?_
    refine va_get (D := dd) (ci := 5) (v := .int (nI 1)) (C := RX5) (T := TX5) (N := 15) hx hb hts hin_X5 hown hK.1 hP 0 rfl rfl 0 (by decide) hf_48 (fun _ h9 => h9) rfl dX5_set_35 ?_
    refine nr_if_le (tgt := 43) hx hb (by omega) dX5_set_38 (by decide) (fun c_38 => absurd c_38 (by omega)) (fun c_38 => ?_)
    refine lv_iconst (v := nI 0) hx hb dX5_set_41 (by decide) ?_
    have hP9 := hP.sub (ws' := [(g0, .inr (5, [.int (nI 1), .ref qD, .ref qT, .int (nI U), .int (pI le wl), .int wd, .ref qN, .ref qO, .ref qS, .ref qC, .ref qP, .ref qG, .ref qB, .ref qF, .ref qX]))]) [0] rfl
    have hD9 := hD.sub (ws' := [(g0, .inr (5, [.int (nI 1), .ref qD, .ref qT, .int (nI U), .int (pI le wl), .int wd, .ref qN, .ref qO, .ref qS, .ref qC, .ref qP, .ref qG, .ref qB, .ref qF, .ref qX]))]) [0] (by decide) rfl
    exact W.iret (v := nI 0) hx hb hr (fun t ht hW => ⟨⟨nI 0, (), rfl, trivial, by rw [ht]; exact hP9, hD9⟩, hS.F ht⟩) hS.2.2 dX5_set_42

set_option maxHeartbeats 4000000 in
set_option maxRecDepth 100000 in
theorem kX5_spoil_b1 (l : Launch) (dd : va_G) (cI cZ cR cJ : ClassId) (g0 : Nat) (th : Nat) (U : Nat) (le : Bool) (wl : Nat) (wd : Int32) (qD : Nat) (qT : Nat) (qN : Nat) (qO : Nat) (qS : Nat) (qC : Nat) (qP : Nat) (qG : Nat) (qB : Nat) (qF : Nat) (qX : Nat) (x : Int32) (y : Int32) (sz : Nat) (hbad : x < 0 ∨ ¬ x ≤ nI 4095) : Met l yX5_spoil wsX5_spoil ({ frames := 0, cells := 0, slots := 0, locals := 0 }) (va_Pc [.ref g0, .int x, .int y] (qm dd cI cZ cR cJ sz [(g0, .inr (5, [.int (nI th), .ref qD, .ref qT, .int (nI U), .int (pI le wl), .int wd, .ref qN, .ref qO, .ref qS, .ref qC, .ref qP, .ref qG, .ref qB, .ref qF, .ref qX]))])) (va_Qv (fun u : Unit => True) (fun u t => qa dd (va_A [(g0, .inr (5, [.int (nI th), .ref qD, .ref qT, .int (nI U), .int (pI le wl), .int wd, .ref qN, .ref qO, .ref qS, .ref qC, .ref qP, .ref qG, .ref qB, .ref qF, .ref qX]))] sz) [(g0, .inr (5, [.int (nI 1), .ref qD, .ref qT, .int (nI U), .int (pI le wl), .int wd, .ref qN, .ref qO, .ref qS, .ref qC, .ref qP, .ref qG, .ref qB, .ref qF, .ref qX]))] t) (va_A [(g0, .inr (5, [.int (nI th), .ref qD, .ref qT, .int (nI U), .int (pI le wl), .int wd, .ref qN, .ref qO, .ref qS, .ref qC, .ref qP, .ref qG, .ref qB, .ref qF, .ref qX]))] sz)) 0 0 (va_A [(g0, .inr (5, [.int (nI th), .ref qD, .ref qT, .int (nI U), .int (pI le wl), .int wd, .ref qN, .ref qO, .ref qS, .ref qC, .ref qP, .ref qG, .ref qB, .ref qF, .ref qX]))] sz) := by
  refine mk_mut (cc := cX5_spoil) (maxL := 3) (ret := none) (Qf := fun A => va_Qv (fun u : Unit => True) (fun u t => qa dd A [(g0, .inr (5, [.int (nI 1), .ref qD, .ref qT, .int (nI U), .int (pI le wl), .int wd, .ref qN, .ref qO, .ref qS, .ref qC, .ref qP, .ref qG, .ref qB, .ref qF, .ref qX]))] t) A) (by decide) rfl (Nat.le_of_ble_eq_true rfl) ?_
  intro p e s m below meth c A hx hb hr hts hown hlocks hml hin hP hD hA hS hK ls hl
  have hown : s.vm.findClass RX5 = some m.cls := hown
  have hl : lv_has ls 3 [(0, .ref g0), (1, .int x), (2, .int y)] := hl
  have hf_48 := hts (.fieldLink RX5 48 "RecordSystemModel" "thrown" "I") (by decide +kernel)
  have hin_X5 : ∀ w ∈ wsX50, w ∈ wsX5_spoil := by decide +kernel
  refine lv_aload_n hx hb dX5_spoil_0 rfl (lv_at hl 0 rfl) ?_
  refine lv_iload_n hx hb dX5_spoil_1 rfl (lv_at hl 1 rfl) ?_
  refine lv_if_lt (tgt := 12) hx hb dX5_spoil_2 (by decide) (fun c_2 => ?_) (fun c_2 => ?_)
  · refine lv_iconst (v := nI 1) hx hb dX5_spoil_12 (by decide) ?_
    refine lv_goto (tgt := 32) hx hb dX5_spoil_13 (by decide) ?_
    refine va_put (D := dd) (ci := 5) (v := .int (nI 1)) (ty := .int) (C := RX5) (T := TX5) (N := 15) hx hb hts hin_X5 tyX5 tyX5_ok nmX5 hown hK.1 hP hD hS 0 rfl rfl 0 (by decide) hf_48 (fun _ h9 => h9) rfl (by decide +kernel) rfl rfl (Nat.le_of_ble_eq_true rfl) dX5_spoil_32 (fun H locs hP hD hS => ?_)
    have hP : va_P dd vwCl [(g0, .inr (5, [.int (nI 1), .ref qD, .ref qT, .int (nI U), .int (pI le wl), .int wd, .ref qN, .ref qO, .ref qS, .ref qC, .ref qP, .ref qG, .ref qB, .ref qF, .ref qX]))] H := hP
    have hD : va_D A [(g0, .inr (5, [.int (nI 1), .ref qD, .ref qT, .int (nI U), .int (pI le wl), .int wd, .ref qN, .ref qO, .ref qS, .ref qC, .ref qP, .ref qG, .ref qB, .ref qF, .ref qX]))] := hD
    refine lv_aload_n hx hb dX5_spoil_35 rfl (lv_at hl 0 rfl) ?_
    refine va_get (D := dd) (ci := 5) (v := .int (nI 1)) (C := RX5) (T := TX5) (N := 15) hx hb hts hin_X5 hown hK.1 hP 0 rfl rfl 0 (by decide) hf_48 (fun _ h9 => h9) rfl dX5_spoil_36 ?_
    refine nr_if_ne (tgt := 49) hx hb (by omega) dX5_spoil_39 (by decide) (fun c_39 => ?_) (fun c_39 => absurd c_39 (by omega))
    have hP9 := hP.sub (ws' := [(g0, .inr (5, [.int (nI 1), .ref qD, .ref qT, .int (nI U), .int (pI le wl), .int wd, .ref qN, .ref qO, .ref qS, .ref qC, .ref qP, .ref qG, .ref qB, .ref qF, .ref qX]))]) [0] rfl
    have hD9 := hD.sub (ws' := [(g0, .inr (5, [.int (nI 1), .ref qD, .ref qT, .int (nI U), .int (pI le wl), .int wd, .ref qN, .ref qO, .ref qS, .ref qC, .ref qP, .ref qG, .ref qB, .ref qF, .ref qX]))]) [0] (by decide) rfl
    exact W.vret hx hb hr (fun t ht hW => ⟨⟨(), rfl, trivial, by rw [ht]; exact hP9, hD9⟩, hS.F ht⟩) hS.2.2 dX5_spoil_49
  · refine lv_iload_n hx hb dX5_spoil_5 rfl (lv_at hl 1 rfl) ?_
    refine lv_sipush (v := nI 4095) hx hb dX5_spoil_6 (by decide) ?_
    refine lv_icmp_le (tgt := 16) hx hb dX5_spoil_9 (by decide) (fun c_9 => absurd c_9 (hbad.resolve_left c_2)) (fun c_9 => ?_)
    refine lv_iconst (v := nI 1) hx hb dX5_spoil_12 (by decide) ?_
    refine lv_goto (tgt := 32) hx hb dX5_spoil_13 (by decide) ?_
    refine va_put (D := dd) (ci := 5) (v := .int (nI 1)) (ty := .int) (C := RX5) (T := TX5) (N := 15) hx hb hts hin_X5 tyX5 tyX5_ok nmX5 hown hK.1 hP hD hS 0 rfl rfl 0 (by decide) hf_48 (fun _ h9 => h9) rfl (by decide +kernel) rfl rfl (Nat.le_of_ble_eq_true rfl) dX5_spoil_32 (fun H locs hP hD hS => ?_)
    have hP : va_P dd vwCl [(g0, .inr (5, [.int (nI 1), .ref qD, .ref qT, .int (nI U), .int (pI le wl), .int wd, .ref qN, .ref qO, .ref qS, .ref qC, .ref qP, .ref qG, .ref qB, .ref qF, .ref qX]))] H := hP
    have hD : va_D A [(g0, .inr (5, [.int (nI 1), .ref qD, .ref qT, .int (nI U), .int (pI le wl), .int wd, .ref qN, .ref qO, .ref qS, .ref qC, .ref qP, .ref qG, .ref qB, .ref qF, .ref qX]))] := hD
    refine lv_aload_n hx hb dX5_spoil_35 rfl (lv_at hl 0 rfl) ?_
    refine va_get (D := dd) (ci := 5) (v := .int (nI 1)) (C := RX5) (T := TX5) (N := 15) hx hb hts hin_X5 hown hK.1 hP 0 rfl rfl 0 (by decide) hf_48 (fun _ h9 => h9) rfl dX5_spoil_36 ?_
    refine nr_if_ne (tgt := 49) hx hb (by omega) dX5_spoil_39 (by decide) (fun c_39 => ?_) (fun c_39 => absurd c_39 (by omega))
    have hP9 := hP.sub (ws' := [(g0, .inr (5, [.int (nI 1), .ref qD, .ref qT, .int (nI U), .int (pI le wl), .int wd, .ref qN, .ref qO, .ref qS, .ref qC, .ref qP, .ref qG, .ref qB, .ref qF, .ref qX]))]) [0] rfl
    have hD9 := hD.sub (ws' := [(g0, .inr (5, [.int (nI 1), .ref qD, .ref qT, .int (nI U), .int (pI le wl), .int wd, .ref qN, .ref qO, .ref qS, .ref qC, .ref qP, .ref qG, .ref qB, .ref qF, .ref qX]))]) [0] (by decide) rfl
    exact W.vret hx hb hr (fun t ht hW => ⟨⟨(), rfl, trivial, by rw [ht]; exact hP9, hD9⟩, hS.F ht⟩) hS.2.2 dX5_spoil_49

set_option maxHeartbeats 4000000 in
set_option maxRecDepth 100000 in
theorem kX5_rename_b1 (l : Launch) (dd : va_G) (cI cZ cR cJ : ClassId) (g0 : Nat) (th : Nat) (U : Nat) (le : Bool) (wl : Nat) (wd : Int32) (qD : Nat) (qT : Nat) (qN : Nat) (qO : Nat) (qS : Nat) (qC : Nat) (qP : Nat) (qG : Nat) (qB : Nat) (qF : Nat) (qX : Nat) (x : Int32) (y : Int32) (sz : Nat) (hbad : x < 0 ∨ ¬ x ≤ nI 3) : Met l yX5_rename wsX5_rename ({ frames := 0, cells := 0, slots := 0, locals := 0 }) (va_Pc [.ref g0, .int x, .int y] (qm dd cI cZ cR cJ sz [(g0, .inr (5, [.int (nI th), .ref qD, .ref qT, .int (nI U), .int (pI le wl), .int wd, .ref qN, .ref qO, .ref qS, .ref qC, .ref qP, .ref qG, .ref qB, .ref qF, .ref qX]))])) (va_Qi (fun (r : Int32) (u : Unit) => True) (fun u t => qa dd (va_A [(g0, .inr (5, [.int (nI th), .ref qD, .ref qT, .int (nI U), .int (pI le wl), .int wd, .ref qN, .ref qO, .ref qS, .ref qC, .ref qP, .ref qG, .ref qB, .ref qF, .ref qX]))] sz) [(g0, .inr (5, [.int (nI 1), .ref qD, .ref qT, .int (nI U), .int (pI le wl), .int wd, .ref qN, .ref qO, .ref qS, .ref qC, .ref qP, .ref qG, .ref qB, .ref qF, .ref qX]))] t) (va_A [(g0, .inr (5, [.int (nI th), .ref qD, .ref qT, .int (nI U), .int (pI le wl), .int wd, .ref qN, .ref qO, .ref qS, .ref qC, .ref qP, .ref qG, .ref qB, .ref qF, .ref qX]))] sz)) 0 0 (va_A [(g0, .inr (5, [.int (nI th), .ref qD, .ref qT, .int (nI U), .int (pI le wl), .int wd, .ref qN, .ref qO, .ref qS, .ref qC, .ref qP, .ref qG, .ref qB, .ref qF, .ref qX]))] sz) := by
  refine mk_mut (cc := cX5_rename) (maxL := 7) (ret := (some .int)) (Qf := fun A => va_Qi (fun (r : Int32) (u : Unit) => True) (fun u t => qa dd A [(g0, .inr (5, [.int (nI 1), .ref qD, .ref qT, .int (nI U), .int (pI le wl), .int wd, .ref qN, .ref qO, .ref qS, .ref qC, .ref qP, .ref qG, .ref qB, .ref qF, .ref qX]))] t) A) (by decide) rfl (Nat.le_of_ble_eq_true rfl) ?_
  intro p e s m below meth c A hx hb hr hts hown hlocks hml hin hP hD hA hS hK ls hl
  have hown : s.vm.findClass RX5 = some m.cls := hown
  have hl : lv_has ls 7 [(0, .ref g0), (1, .int x), (2, .int y)] := hl
  have hf_48 := hts (.fieldLink RX5 48 "RecordSystemModel" "thrown" "I") (by decide +kernel)
  have hin_X5 : ∀ w ∈ wsX50, w ∈ wsX5_rename := by decide +kernel
  refine lv_aload_n hx hb dX5_rename_0 rfl (lv_at hl 0 rfl) ?_
  refine lv_iload_n hx hb dX5_rename_1 rfl (lv_at hl 1 rfl) ?_
  refine lv_if_lt (tgt := 19) hx hb dX5_rename_2 (by decide) (fun c_2 => ?_) (fun c_2 => ?_)
  · refine lv_iconst (v := nI 1) hx hb dX5_rename_19 (by decide) ?_
    refine lv_goto (tgt := 24) hx hb dX5_rename_20 (by decide) ?_
    refine va_put (D := dd) (ci := 5) (v := .int (nI 1)) (ty := .int) (C := RX5) (T := TX5) (N := 15) hx hb hts hin_X5 tyX5 tyX5_ok nmX5 hown hK.1 hP hD hS 0 rfl rfl 0 (by decide) hf_48 (fun _ h9 => h9) rfl (by decide +kernel) rfl rfl (Nat.le_of_ble_eq_true rfl) dX5_rename_24 (fun H locs hP hD hS => ?_)
    have hP : va_P dd vwCl [(g0, .inr (5, [.int (nI 1), .ref qD, .ref qT, .int (nI U), .int (pI le wl), .int wd, .ref qN, .ref qO, .ref qS, .ref qC, .ref qP, .ref qG, .ref qB, .ref qF, .ref qX]))] H := hP
    have hD : va_D A [(g0, .inr (5, [.int (nI 1), .ref qD, .ref qT, .int (nI U), .int (pI le wl), .int wd, .ref qN, .ref qO, .ref qS, .ref qC, .ref qP, .ref qG, .ref qB, .ref qF, .ref qX]))] := hD
    refine lv_aload_n hx hb dX5_rename_27 rfl (lv_at hl 0 rfl) ?_
    refine va_get (D := dd) (ci := 5) (v := .int (nI 1)) (C := RX5) (T := TX5) (N := 15) hx hb hts hin_X5 hown hK.1 hP 0 rfl rfl 0 (by decide) hf_48 (fun _ h9 => h9) rfl dX5_rename_28 ?_
    refine nr_if_le (tgt := 36) hx hb (by omega) dX5_rename_31 (by decide) (fun c_31 => absurd c_31 (by omega)) (fun c_31 => ?_)
    refine lv_iconst (v := nI 0) hx hb dX5_rename_34 (by decide) ?_
    have hP9 := hP.sub (ws' := [(g0, .inr (5, [.int (nI 1), .ref qD, .ref qT, .int (nI U), .int (pI le wl), .int wd, .ref qN, .ref qO, .ref qS, .ref qC, .ref qP, .ref qG, .ref qB, .ref qF, .ref qX]))]) [0] rfl
    have hD9 := hD.sub (ws' := [(g0, .inr (5, [.int (nI 1), .ref qD, .ref qT, .int (nI U), .int (pI le wl), .int wd, .ref qN, .ref qO, .ref qS, .ref qC, .ref qP, .ref qG, .ref qB, .ref qF, .ref qX]))]) [0] (by decide) rfl
    exact W.iret (v := nI 0) hx hb hr (fun t ht hW => ⟨⟨nI 0, (), rfl, trivial, by rw [ht]; exact hP9, hD9⟩, hS.F ht⟩) hS.2.2 dX5_rename_35
  · refine lv_iload_n hx hb dX5_rename_5 rfl (lv_at hl 1 rfl) ?_
    refine lv_iconst (v := nI 3) hx hb dX5_rename_6 (by decide) ?_
    refine lv_icmp_gt (tgt := 19) hx hb dX5_rename_7 (by decide) (fun c_7 => ?_) (fun c_7 => absurd (Int32.not_lt.mp c_7) (hbad.resolve_left c_2))
    refine lv_iconst (v := nI 1) hx hb dX5_rename_19 (by decide) ?_
    refine lv_goto (tgt := 24) hx hb dX5_rename_20 (by decide) ?_
    refine va_put (D := dd) (ci := 5) (v := .int (nI 1)) (ty := .int) (C := RX5) (T := TX5) (N := 15) hx hb hts hin_X5 tyX5 tyX5_ok nmX5 hown hK.1 hP hD hS 0 rfl rfl 0 (by decide) hf_48 (fun _ h9 => h9) rfl (by decide +kernel) rfl rfl (Nat.le_of_ble_eq_true rfl) dX5_rename_24 (fun H locs hP hD hS => ?_)
    have hP : va_P dd vwCl [(g0, .inr (5, [.int (nI 1), .ref qD, .ref qT, .int (nI U), .int (pI le wl), .int wd, .ref qN, .ref qO, .ref qS, .ref qC, .ref qP, .ref qG, .ref qB, .ref qF, .ref qX]))] H := hP
    have hD : va_D A [(g0, .inr (5, [.int (nI 1), .ref qD, .ref qT, .int (nI U), .int (pI le wl), .int wd, .ref qN, .ref qO, .ref qS, .ref qC, .ref qP, .ref qG, .ref qB, .ref qF, .ref qX]))] := hD
    refine lv_aload_n hx hb dX5_rename_27 rfl (lv_at hl 0 rfl) ?_
    refine va_get (D := dd) (ci := 5) (v := .int (nI 1)) (C := RX5) (T := TX5) (N := 15) hx hb hts hin_X5 hown hK.1 hP 0 rfl rfl 0 (by decide) hf_48 (fun _ h9 => h9) rfl dX5_rename_28 ?_
    refine nr_if_le (tgt := 36) hx hb (by omega) dX5_rename_31 (by decide) (fun c_31 => absurd c_31 (by omega)) (fun c_31 => ?_)
    refine lv_iconst (v := nI 0) hx hb dX5_rename_34 (by decide) ?_
    have hP9 := hP.sub (ws' := [(g0, .inr (5, [.int (nI 1), .ref qD, .ref qT, .int (nI U), .int (pI le wl), .int wd, .ref qN, .ref qO, .ref qS, .ref qC, .ref qP, .ref qG, .ref qB, .ref qF, .ref qX]))]) [0] rfl
    have hD9 := hD.sub (ws' := [(g0, .inr (5, [.int (nI 1), .ref qD, .ref qT, .int (nI U), .int (pI le wl), .int wd, .ref qN, .ref qO, .ref qS, .ref qC, .ref qP, .ref qG, .ref qB, .ref qF, .ref qX]))]) [0] (by decide) rfl
    exact W.iret (v := nI 0) hx hb hr (fun t ht hW => ⟨⟨nI 0, (), rfl, trivial, by rw [ht]; exact hP9, hD9⟩, hS.F ht⟩) hS.2.2 dX5_rename_35

set_option maxHeartbeats 4000000 in
set_option maxRecDepth 100000 in
theorem kX5_rename_b2 (l : Launch) (dd : va_G) (cI cZ cR cJ : ClassId) (g0 : Nat) (th : Nat) (U : Nat) (le : Bool) (wl : Nat) (wd : Int32) (qD : Nat) (qT : Nat) (qN : Nat) (qO : Nat) (qS : Nat) (qC : Nat) (qP : Nat) (qG : Nat) (qB : Nat) (qF : Nat) (qX : Nat) (ci : Nat) (x : Int32) (sz : Nat) (hci : ci < 4) (hbad : x < 0 ∨ ¬ x ≤ nI 3) : Met l yX5_rename wsX5_rename ({ frames := 0, cells := 0, slots := 0, locals := 0 }) (va_Pc [.ref g0, .int (nI ci), .int x] (qm dd cI cZ cR cJ sz [(g0, .inr (5, [.int (nI th), .ref qD, .ref qT, .int (nI U), .int (pI le wl), .int wd, .ref qN, .ref qO, .ref qS, .ref qC, .ref qP, .ref qG, .ref qB, .ref qF, .ref qX]))])) (va_Qi (fun (r : Int32) (u : Unit) => True) (fun u t => qa dd (va_A [(g0, .inr (5, [.int (nI th), .ref qD, .ref qT, .int (nI U), .int (pI le wl), .int wd, .ref qN, .ref qO, .ref qS, .ref qC, .ref qP, .ref qG, .ref qB, .ref qF, .ref qX]))] sz) [(g0, .inr (5, [.int (nI 1), .ref qD, .ref qT, .int (nI U), .int (pI le wl), .int wd, .ref qN, .ref qO, .ref qS, .ref qC, .ref qP, .ref qG, .ref qB, .ref qF, .ref qX]))] t) (va_A [(g0, .inr (5, [.int (nI th), .ref qD, .ref qT, .int (nI U), .int (pI le wl), .int wd, .ref qN, .ref qO, .ref qS, .ref qC, .ref qP, .ref qG, .ref qB, .ref qF, .ref qX]))] sz)) 0 0 (va_A [(g0, .inr (5, [.int (nI th), .ref qD, .ref qT, .int (nI U), .int (pI le wl), .int wd, .ref qN, .ref qO, .ref qS, .ref qC, .ref qP, .ref qG, .ref qB, .ref qF, .ref qX]))] sz) := by
  refine mk_mut (cc := cX5_rename) (maxL := 7) (ret := (some .int)) (Qf := fun A => va_Qi (fun (r : Int32) (u : Unit) => True) (fun u t => qa dd A [(g0, .inr (5, [.int (nI 1), .ref qD, .ref qT, .int (nI U), .int (pI le wl), .int wd, .ref qN, .ref qO, .ref qS, .ref qC, .ref qP, .ref qG, .ref qB, .ref qF, .ref qX]))] t) A) (by decide) rfl (Nat.le_of_ble_eq_true rfl) ?_
  intro p e s m below meth c A hx hb hr hts hown hlocks hml hin hP hD hA hS hK ls hl
  have hown : s.vm.findClass RX5 = some m.cls := hown
  have hl : lv_has ls 7 [(0, .ref g0), (1, .int (nI ci)), (2, .int x)] := hl
  have hf_48 := hts (.fieldLink RX5 48 "RecordSystemModel" "thrown" "I") (by decide +kernel)
  have hin_X5 : ∀ w ∈ wsX50, w ∈ wsX5_rename := by decide +kernel
  refine lv_aload_n hx hb dX5_rename_0 rfl (lv_at hl 0 rfl) ?_
  refine lv_iload_n hx hb dX5_rename_1 rfl (lv_at hl 1 rfl) ?_
  refine nr_if_lt (tgt := 19) hx hb (by omega) dX5_rename_2 (by decide) ?_
  refine lv_iload_n hx hb dX5_rename_5 rfl (lv_at hl 1 rfl) ?_
  refine lv_iconst (v := nI 3) hx hb dX5_rename_6 (by decide) ?_
  refine nr_gt (tgt := 19) hx hb (by omega) (by omega) dX5_rename_7 (by decide) (fun c_7 => absurd c_7 (by omega)) (fun c_7 => ?_)
  refine lv_iload_n hx hb dX5_rename_10 rfl (lv_at hl 2 rfl) ?_
  refine lv_if_lt (tgt := 19) hx hb dX5_rename_11 (by decide) (fun c_11 => ?_) (fun c_11 => ?_)
  · refine lv_iconst (v := nI 1) hx hb dX5_rename_19 (by decide) ?_
    refine lv_goto (tgt := 24) hx hb dX5_rename_20 (by decide) ?_
    refine va_put (D := dd) (ci := 5) (v := .int (nI 1)) (ty := .int) (C := RX5) (T := TX5) (N := 15) hx hb hts hin_X5 tyX5 tyX5_ok nmX5 hown hK.1 hP hD hS 0 rfl rfl 0 (by decide) hf_48 (fun _ h9 => h9) rfl (by decide +kernel) rfl rfl (Nat.le_of_ble_eq_true rfl) dX5_rename_24 (fun H locs hP hD hS => ?_)
    have hP : va_P dd vwCl [(g0, .inr (5, [.int (nI 1), .ref qD, .ref qT, .int (nI U), .int (pI le wl), .int wd, .ref qN, .ref qO, .ref qS, .ref qC, .ref qP, .ref qG, .ref qB, .ref qF, .ref qX]))] H := hP
    have hD : va_D A [(g0, .inr (5, [.int (nI 1), .ref qD, .ref qT, .int (nI U), .int (pI le wl), .int wd, .ref qN, .ref qO, .ref qS, .ref qC, .ref qP, .ref qG, .ref qB, .ref qF, .ref qX]))] := hD
    refine lv_aload_n hx hb dX5_rename_27 rfl (lv_at hl 0 rfl) ?_
    refine va_get (D := dd) (ci := 5) (v := .int (nI 1)) (C := RX5) (T := TX5) (N := 15) hx hb hts hin_X5 hown hK.1 hP 0 rfl rfl 0 (by decide) hf_48 (fun _ h9 => h9) rfl dX5_rename_28 ?_
    refine nr_if_le (tgt := 36) hx hb (by omega) dX5_rename_31 (by decide) (fun c_31 => absurd c_31 (by omega)) (fun c_31 => ?_)
    refine lv_iconst (v := nI 0) hx hb dX5_rename_34 (by decide) ?_
    have hP9 := hP.sub (ws' := [(g0, .inr (5, [.int (nI 1), .ref qD, .ref qT, .int (nI U), .int (pI le wl), .int wd, .ref qN, .ref qO, .ref qS, .ref qC, .ref qP, .ref qG, .ref qB, .ref qF, .ref qX]))]) [0] rfl
    have hD9 := hD.sub (ws' := [(g0, .inr (5, [.int (nI 1), .ref qD, .ref qT, .int (nI U), .int (pI le wl), .int wd, .ref qN, .ref qO, .ref qS, .ref qC, .ref qP, .ref qG, .ref qB, .ref qF, .ref qX]))]) [0] (by decide) rfl
    exact W.iret (v := nI 0) hx hb hr (fun t ht hW => ⟨⟨nI 0, (), rfl, trivial, by rw [ht]; exact hP9, hD9⟩, hS.F ht⟩) hS.2.2 dX5_rename_35
  · refine lv_iload_n hx hb dX5_rename_14 rfl (lv_at hl 2 rfl) ?_
    refine lv_iconst (v := nI 3) hx hb dX5_rename_15 (by decide) ?_
    refine lv_icmp_le (tgt := 23) hx hb dX5_rename_16 (by decide) (fun c_16 => absurd c_16 (hbad.resolve_left c_11)) (fun c_16 => ?_)
    refine lv_iconst (v := nI 1) hx hb dX5_rename_19 (by decide) ?_
    refine lv_goto (tgt := 24) hx hb dX5_rename_20 (by decide) ?_
    refine va_put (D := dd) (ci := 5) (v := .int (nI 1)) (ty := .int) (C := RX5) (T := TX5) (N := 15) hx hb hts hin_X5 tyX5 tyX5_ok nmX5 hown hK.1 hP hD hS 0 rfl rfl 0 (by decide) hf_48 (fun _ h9 => h9) rfl (by decide +kernel) rfl rfl (Nat.le_of_ble_eq_true rfl) dX5_rename_24 (fun H locs hP hD hS => ?_)
    have hP : va_P dd vwCl [(g0, .inr (5, [.int (nI 1), .ref qD, .ref qT, .int (nI U), .int (pI le wl), .int wd, .ref qN, .ref qO, .ref qS, .ref qC, .ref qP, .ref qG, .ref qB, .ref qF, .ref qX]))] H := hP
    have hD : va_D A [(g0, .inr (5, [.int (nI 1), .ref qD, .ref qT, .int (nI U), .int (pI le wl), .int wd, .ref qN, .ref qO, .ref qS, .ref qC, .ref qP, .ref qG, .ref qB, .ref qF, .ref qX]))] := hD
    refine lv_aload_n hx hb dX5_rename_27 rfl (lv_at hl 0 rfl) ?_
    refine va_get (D := dd) (ci := 5) (v := .int (nI 1)) (C := RX5) (T := TX5) (N := 15) hx hb hts hin_X5 hown hK.1 hP 0 rfl rfl 0 (by decide) hf_48 (fun _ h9 => h9) rfl dX5_rename_28 ?_
    refine nr_if_le (tgt := 36) hx hb (by omega) dX5_rename_31 (by decide) (fun c_31 => absurd c_31 (by omega)) (fun c_31 => ?_)
    refine lv_iconst (v := nI 0) hx hb dX5_rename_34 (by decide) ?_
    have hP9 := hP.sub (ws' := [(g0, .inr (5, [.int (nI 1), .ref qD, .ref qT, .int (nI U), .int (pI le wl), .int wd, .ref qN, .ref qO, .ref qS, .ref qC, .ref qP, .ref qG, .ref qB, .ref qF, .ref qX]))]) [0] rfl
    have hD9 := hD.sub (ws' := [(g0, .inr (5, [.int (nI 1), .ref qD, .ref qT, .int (nI U), .int (pI le wl), .int wd, .ref qN, .ref qO, .ref qS, .ref qC, .ref qP, .ref qG, .ref qB, .ref qF, .ref qX]))]) [0] (by decide) rfl
    exact W.iret (v := nI 0) hx hb hr (fun t ht hW => ⟨⟨nI 0, (), rfl, trivial, by rw [ht]; exact hP9, hD9⟩, hS.F ht⟩) hS.2.2 dX5_rename_35

set_option maxHeartbeats 4000000 in
set_option maxRecDepth 100000 in
theorem kX5_search_b2 (l : Launch) (dd : va_G) (cI cZ cR cJ : ClassId) (g0 : Nat) (th : Nat) (U : Nat) (le : Bool) (wl : Nat) (wd : Int32) (qD : Nat) (qT : Nat) (qN : Nat) (qO : Nat) (qS : Nat) (qC : Nat) (qP : Nat) (qG : Nat) (qB : Nat) (qF : Nat) (qX : Nat) (ci : Nat) (x : Int32) (sz : Nat) (hci : ci < 4) (hbad : x < 0 ∨ ¬ x ≤ nI 31) : Met l yX5_search wsX5_search ({ frames := 0, cells := 0, slots := 0, locals := 0 }) (va_Pc [.ref g0, .int (nI ci), .int x] (qm dd cI cZ cR cJ sz [(g0, .inr (5, [.int (nI th), .ref qD, .ref qT, .int (nI U), .int (pI le wl), .int wd, .ref qN, .ref qO, .ref qS, .ref qC, .ref qP, .ref qG, .ref qB, .ref qF, .ref qX]))])) (va_Qi (fun (r : Int32) (u : Unit) => True) (fun u t => qa dd (va_A [(g0, .inr (5, [.int (nI th), .ref qD, .ref qT, .int (nI U), .int (pI le wl), .int wd, .ref qN, .ref qO, .ref qS, .ref qC, .ref qP, .ref qG, .ref qB, .ref qF, .ref qX]))] sz) [(g0, .inr (5, [.int (nI 2), .ref qD, .ref qT, .int (nI U), .int (pI le wl), .int wd, .ref qN, .ref qO, .ref qS, .ref qC, .ref qP, .ref qG, .ref qB, .ref qF, .ref qX]))] t) (va_A [(g0, .inr (5, [.int (nI th), .ref qD, .ref qT, .int (nI U), .int (pI le wl), .int wd, .ref qN, .ref qO, .ref qS, .ref qC, .ref qP, .ref qG, .ref qB, .ref qF, .ref qX]))] sz)) 0 0 (va_A [(g0, .inr (5, [.int (nI th), .ref qD, .ref qT, .int (nI U), .int (pI le wl), .int wd, .ref qN, .ref qO, .ref qS, .ref qC, .ref qP, .ref qG, .ref qB, .ref qF, .ref qX]))] sz) := by
  refine mk_mut (cc := cX5_search) (maxL := 3) (ret := (some .int)) (Qf := fun A => va_Qi (fun (r : Int32) (u : Unit) => True) (fun u t => qa dd A [(g0, .inr (5, [.int (nI 2), .ref qD, .ref qT, .int (nI U), .int (pI le wl), .int wd, .ref qN, .ref qO, .ref qS, .ref qC, .ref qP, .ref qG, .ref qB, .ref qF, .ref qX]))] t) A) (by decide) rfl (Nat.le_of_ble_eq_true rfl) ?_
  intro p e s m below meth c A hx hb hr hts hown hlocks hml hin hP hD hA hS hK ls hl
  have hown : s.vm.findClass RX5 = some m.cls := hown
  have hl : lv_has ls 3 [(0, .ref g0), (1, .int (nI ci)), (2, .int x)] := hl
  have hf_48 := hts (.fieldLink RX5 48 "RecordSystemModel" "thrown" "I") (by decide +kernel)
  have hin_X5 : ∀ w ∈ wsX50, w ∈ wsX5_search := by decide +kernel
  refine lv_aload_n hx hb dX5_search_0 rfl (lv_at hl 0 rfl) ?_
  refine lv_iload_n hx hb dX5_search_1 rfl (lv_at hl 1 rfl) ?_
  refine nr_if_lt (tgt := 10) hx hb (by omega) dX5_search_2 (by decide) ?_
  refine lv_iload_n hx hb dX5_search_5 rfl (lv_at hl 1 rfl) ?_
  refine lv_iconst (v := nI 3) hx hb dX5_search_6 (by decide) ?_
  refine nr_le (tgt := 14) hx hb (by omega) (by omega) dX5_search_7 (by decide) (fun c_7 => ?_) (fun c_7 => absurd c_7 (by omega))
  refine lv_iload_n hx hb dX5_search_14 rfl (lv_at hl 2 rfl) ?_
  refine lv_if_lt (tgt := 24) hx hb dX5_search_15 (by decide) (fun c_15 => ?_) (fun c_15 => ?_)
  · refine lv_iconst (v := nI 2) hx hb dX5_search_24 (by decide) ?_
    refine lv_goto (tgt := 29) hx hb dX5_search_25 (by decide) ?_
    refine va_put (D := dd) (ci := 5) (v := .int (nI 2)) (ty := .int) (C := RX5) (T := TX5) (N := 15) hx hb hts hin_X5 tyX5 tyX5_ok nmX5 hown hK.1 hP hD hS 0 rfl rfl 0 (by decide) hf_48 (fun _ h9 => h9) rfl (by decide +kernel) rfl rfl (Nat.le_of_ble_eq_true rfl) dX5_search_29 (fun H locs hP hD hS => ?_)
    have hP : va_P dd vwCl [(g0, .inr (5, [.int (nI 2), .ref qD, .ref qT, .int (nI U), .int (pI le wl), .int wd, .ref qN, .ref qO, .ref qS, .ref qC, .ref qP, .ref qG, .ref qB, .ref qF, .ref qX]))] H := hP
    have hD : va_D A [(g0, .inr (5, [.int (nI 2), .ref qD, .ref qT, .int (nI U), .int (pI le wl), .int wd, .ref qN, .ref qO, .ref qS, .ref qC, .ref qP, .ref qG, .ref qB, .ref qF, .ref qX]))] := hD
    refine lv_aload_n hx hb dX5_search_32 rfl (lv_at hl 0 rfl) ?_
    refine va_get (D := dd) (ci := 5) (v := .int (nI 2)) (C := RX5) (T := TX5) (N := 15) hx hb hts hin_X5 hown hK.1 hP 0 rfl rfl 0 (by decide) hf_48 (fun _ h9 => h9) rfl dX5_search_33 ?_
    refine nr_if_le (tgt := 43) hx hb (by omega) dX5_search_36 (by decide) (fun c_36 => absurd c_36 (by omega)) (fun c_36 => ?_)
    refine lv_iconst (v := nI 0) hx hb dX5_search_39 (by decide) ?_
    refine lv_goto (tgt := 50) hx hb dX5_search_40 (by decide) ?_
    have hP9 := hP.sub (ws' := [(g0, .inr (5, [.int (nI 2), .ref qD, .ref qT, .int (nI U), .int (pI le wl), .int wd, .ref qN, .ref qO, .ref qS, .ref qC, .ref qP, .ref qG, .ref qB, .ref qF, .ref qX]))]) [0] rfl
    have hD9 := hD.sub (ws' := [(g0, .inr (5, [.int (nI 2), .ref qD, .ref qT, .int (nI U), .int (pI le wl), .int wd, .ref qN, .ref qO, .ref qS, .ref qC, .ref qP, .ref qG, .ref qB, .ref qF, .ref qX]))]) [0] (by decide) rfl
    exact W.iret (v := nI 0) hx hb hr (fun t ht hW => ⟨⟨nI 0, (), rfl, trivial, by rw [ht]; exact hP9, hD9⟩, hS.F ht⟩) hS.2.2 dX5_search_50
  · refine lv_iload_n hx hb dX5_search_18 rfl (lv_at hl 2 rfl) ?_
    refine lv_bipush (v := nI 31) hx hb dX5_search_19 (by decide) ?_
    refine lv_icmp_le (tgt := 28) hx hb dX5_search_21 (by decide) (fun c_21 => absurd c_21 (hbad.resolve_left c_15)) (fun c_21 => ?_)
    refine lv_iconst (v := nI 2) hx hb dX5_search_24 (by decide) ?_
    refine lv_goto (tgt := 29) hx hb dX5_search_25 (by decide) ?_
    refine va_put (D := dd) (ci := 5) (v := .int (nI 2)) (ty := .int) (C := RX5) (T := TX5) (N := 15) hx hb hts hin_X5 tyX5 tyX5_ok nmX5 hown hK.1 hP hD hS 0 rfl rfl 0 (by decide) hf_48 (fun _ h9 => h9) rfl (by decide +kernel) rfl rfl (Nat.le_of_ble_eq_true rfl) dX5_search_29 (fun H locs hP hD hS => ?_)
    have hP : va_P dd vwCl [(g0, .inr (5, [.int (nI 2), .ref qD, .ref qT, .int (nI U), .int (pI le wl), .int wd, .ref qN, .ref qO, .ref qS, .ref qC, .ref qP, .ref qG, .ref qB, .ref qF, .ref qX]))] H := hP
    have hD : va_D A [(g0, .inr (5, [.int (nI 2), .ref qD, .ref qT, .int (nI U), .int (pI le wl), .int wd, .ref qN, .ref qO, .ref qS, .ref qC, .ref qP, .ref qG, .ref qB, .ref qF, .ref qX]))] := hD
    refine lv_aload_n hx hb dX5_search_32 rfl (lv_at hl 0 rfl) ?_
    refine va_get (D := dd) (ci := 5) (v := .int (nI 2)) (C := RX5) (T := TX5) (N := 15) hx hb hts hin_X5 hown hK.1 hP 0 rfl rfl 0 (by decide) hf_48 (fun _ h9 => h9) rfl dX5_search_33 ?_
    refine nr_if_le (tgt := 43) hx hb (by omega) dX5_search_36 (by decide) (fun c_36 => absurd c_36 (by omega)) (fun c_36 => ?_)
    refine lv_iconst (v := nI 0) hx hb dX5_search_39 (by decide) ?_
    refine lv_goto (tgt := 50) hx hb dX5_search_40 (by decide) ?_
    have hP9 := hP.sub (ws' := [(g0, .inr (5, [.int (nI 2), .ref qD, .ref qT, .int (nI U), .int (pI le wl), .int wd, .ref qN, .ref qO, .ref qS, .ref qC, .ref qP, .ref qG, .ref qB, .ref qF, .ref qX]))]) [0] rfl
    have hD9 := hD.sub (ws' := [(g0, .inr (5, [.int (nI 2), .ref qD, .ref qT, .int (nI U), .int (pI le wl), .int wd, .ref qN, .ref qO, .ref qS, .ref qC, .ref qP, .ref qG, .ref qB, .ref qF, .ref qX]))]) [0] (by decide) rfl
    exact W.iret (v := nI 0) hx hb hr (fun t ht hW => ⟨⟨nI 0, (), rfl, trivial, by rw [ht]; exact hP9, hD9⟩, hS.F ht⟩) hS.2.2 dX5_search_50

set_option maxHeartbeats 4000000 in
set_option maxRecDepth 100000 in
theorem kX5_at_b2 (l : Launch) (dd : va_G) (cI cZ cR cJ : ClassId) (g0 : Nat) (th : Nat) (U : Nat) (le : Bool) (wl : Nat) (wd : Int32) (qD : Nat) (qT : Nat) (qN : Nat) (qO : Nat) (qS : Nat) (qC : Nat) (qP : Nat) (qG : Nat) (qB : Nat) (qF : Nat) (qX : Nat) (ci : Nat) (x : Int32) (puts : Bool) (sz : Nat) (hci : ci < 4) (hbad : x < 0 ∨ ¬ x ≤ nI 100000) : Met l yX5_at wsX5_at ({ frames := 0, cells := 0, slots := 0, locals := 0 }) (va_Pc [.ref g0, .int (nI ci), .int x, .int (bI puts)] (qm dd cI cZ cR cJ sz [(g0, .inr (5, [.int (nI th), .ref qD, .ref qT, .int (nI U), .int (pI le wl), .int wd, .ref qN, .ref qO, .ref qS, .ref qC, .ref qP, .ref qG, .ref qB, .ref qF, .ref qX]))])) (va_Qi (fun (r : Int32) (u : Unit) => True) (fun u t => qa dd (va_A [(g0, .inr (5, [.int (nI th), .ref qD, .ref qT, .int (nI U), .int (pI le wl), .int wd, .ref qN, .ref qO, .ref qS, .ref qC, .ref qP, .ref qG, .ref qB, .ref qF, .ref qX]))] sz) [(g0, .inr (5, [.int (nI 2), .ref qD, .ref qT, .int (nI U), .int (pI le wl), .int wd, .ref qN, .ref qO, .ref qS, .ref qC, .ref qP, .ref qG, .ref qB, .ref qF, .ref qX]))] t) (va_A [(g0, .inr (5, [.int (nI th), .ref qD, .ref qT, .int (nI U), .int (pI le wl), .int wd, .ref qN, .ref qO, .ref qS, .ref qC, .ref qP, .ref qG, .ref qB, .ref qF, .ref qX]))] sz)) 0 0 (va_A [(g0, .inr (5, [.int (nI th), .ref qD, .ref qT, .int (nI U), .int (pI le wl), .int wd, .ref qN, .ref qO, .ref qS, .ref qC, .ref qP, .ref qG, .ref qB, .ref qF, .ref qX]))] sz) := by
  refine mk_mut (cc := cX5_at) (maxL := 5) (ret := (some .int)) (Qf := fun A => va_Qi (fun (r : Int32) (u : Unit) => True) (fun u t => qa dd A [(g0, .inr (5, [.int (nI 2), .ref qD, .ref qT, .int (nI U), .int (pI le wl), .int wd, .ref qN, .ref qO, .ref qS, .ref qC, .ref qP, .ref qG, .ref qB, .ref qF, .ref qX]))] t) A) (by decide) rfl (Nat.le_of_ble_eq_true rfl) ?_
  intro p e s m below meth c A hx hb hr hts hown hlocks hml hin hP hD hA hS hK ls hl
  have hown : s.vm.findClass RX5 = some m.cls := hown
  have hl : lv_has ls 5 [(0, .ref g0), (1, .int (nI ci)), (2, .int x), (3, .int (bI puts))] := hl
  have hf_48 := hts (.fieldLink RX5 48 "RecordSystemModel" "thrown" "I") (by decide +kernel)
  have hin_X5 : ∀ w ∈ wsX50, w ∈ wsX5_at := by decide +kernel
  refine lv_aload_n hx hb dX5_at_0 rfl (lv_at hl 0 rfl) ?_
  refine lv_iload_n hx hb dX5_at_1 rfl (lv_at hl 1 rfl) ?_
  refine nr_if_lt (tgt := 10) hx hb (by omega) dX5_at_2 (by decide) ?_
  refine lv_iload_n hx hb dX5_at_5 rfl (lv_at hl 1 rfl) ?_
  refine lv_iconst (v := nI 3) hx hb dX5_at_6 (by decide) ?_
  refine nr_le (tgt := 14) hx hb (by omega) (by omega) dX5_at_7 (by decide) (fun c_7 => ?_) (fun c_7 => absurd c_7 (by omega))
  refine lv_iload_n hx hb dX5_at_14 rfl (lv_at hl 2 rfl) ?_
  refine lv_if_lt (tgt := 24) hx hb dX5_at_15 (by decide) (fun c_15 => ?_) (fun c_15 => ?_)
  · refine lv_iconst (v := nI 2) hx hb dX5_at_24 (by decide) ?_
    refine lv_goto (tgt := 29) hx hb dX5_at_25 (by decide) ?_
    refine va_put (D := dd) (ci := 5) (v := .int (nI 2)) (ty := .int) (C := RX5) (T := TX5) (N := 15) hx hb hts hin_X5 tyX5 tyX5_ok nmX5 hown hK.1 hP hD hS 0 rfl rfl 0 (by decide) hf_48 (fun _ h9 => h9) rfl (by decide +kernel) rfl rfl (Nat.le_of_ble_eq_true rfl) dX5_at_29 (fun H locs hP hD hS => ?_)
    have hP : va_P dd vwCl [(g0, .inr (5, [.int (nI 2), .ref qD, .ref qT, .int (nI U), .int (pI le wl), .int wd, .ref qN, .ref qO, .ref qS, .ref qC, .ref qP, .ref qG, .ref qB, .ref qF, .ref qX]))] H := hP
    have hD : va_D A [(g0, .inr (5, [.int (nI 2), .ref qD, .ref qT, .int (nI U), .int (pI le wl), .int wd, .ref qN, .ref qO, .ref qS, .ref qC, .ref qP, .ref qG, .ref qB, .ref qF, .ref qX]))] := hD
    refine lv_aload_n hx hb dX5_at_32 rfl (lv_at hl 0 rfl) ?_
    refine va_get (D := dd) (ci := 5) (v := .int (nI 2)) (C := RX5) (T := TX5) (N := 15) hx hb hts hin_X5 hown hK.1 hP 0 rfl rfl 0 (by decide) hf_48 (fun _ h9 => h9) rfl dX5_at_33 ?_
    refine nr_if_le (tgt := 41) hx hb (by omega) dX5_at_36 (by decide) (fun c_36 => absurd c_36 (by omega)) (fun c_36 => ?_)
    refine lv_iconst (v := nI 0) hx hb dX5_at_39 (by decide) ?_
    have hP9 := hP.sub (ws' := [(g0, .inr (5, [.int (nI 2), .ref qD, .ref qT, .int (nI U), .int (pI le wl), .int wd, .ref qN, .ref qO, .ref qS, .ref qC, .ref qP, .ref qG, .ref qB, .ref qF, .ref qX]))]) [0] rfl
    have hD9 := hD.sub (ws' := [(g0, .inr (5, [.int (nI 2), .ref qD, .ref qT, .int (nI U), .int (pI le wl), .int wd, .ref qN, .ref qO, .ref qS, .ref qC, .ref qP, .ref qG, .ref qB, .ref qF, .ref qX]))]) [0] (by decide) rfl
    exact W.iret (v := nI 0) hx hb hr (fun t ht hW => ⟨⟨nI 0, (), rfl, trivial, by rw [ht]; exact hP9, hD9⟩, hS.F ht⟩) hS.2.2 dX5_at_40
  · refine lv_iload_n hx hb dX5_at_18 rfl (lv_at hl 2 rfl) ?_
    refine lv_ldc (v := nI 100000) hx hb hown (hts (.constant RX5 114 100000) (by decide +kernel)) dX5_at_19 ?_
    refine lv_icmp_le (tgt := 28) hx hb dX5_at_21 (by decide) (fun c_21 => absurd c_21 (hbad.resolve_left c_15)) (fun c_21 => ?_)
    refine lv_iconst (v := nI 2) hx hb dX5_at_24 (by decide) ?_
    refine lv_goto (tgt := 29) hx hb dX5_at_25 (by decide) ?_
    refine va_put (D := dd) (ci := 5) (v := .int (nI 2)) (ty := .int) (C := RX5) (T := TX5) (N := 15) hx hb hts hin_X5 tyX5 tyX5_ok nmX5 hown hK.1 hP hD hS 0 rfl rfl 0 (by decide) hf_48 (fun _ h9 => h9) rfl (by decide +kernel) rfl rfl (Nat.le_of_ble_eq_true rfl) dX5_at_29 (fun H locs hP hD hS => ?_)
    have hP : va_P dd vwCl [(g0, .inr (5, [.int (nI 2), .ref qD, .ref qT, .int (nI U), .int (pI le wl), .int wd, .ref qN, .ref qO, .ref qS, .ref qC, .ref qP, .ref qG, .ref qB, .ref qF, .ref qX]))] H := hP
    have hD : va_D A [(g0, .inr (5, [.int (nI 2), .ref qD, .ref qT, .int (nI U), .int (pI le wl), .int wd, .ref qN, .ref qO, .ref qS, .ref qC, .ref qP, .ref qG, .ref qB, .ref qF, .ref qX]))] := hD
    refine lv_aload_n hx hb dX5_at_32 rfl (lv_at hl 0 rfl) ?_
    refine va_get (D := dd) (ci := 5) (v := .int (nI 2)) (C := RX5) (T := TX5) (N := 15) hx hb hts hin_X5 hown hK.1 hP 0 rfl rfl 0 (by decide) hf_48 (fun _ h9 => h9) rfl dX5_at_33 ?_
    refine nr_if_le (tgt := 41) hx hb (by omega) dX5_at_36 (by decide) (fun c_36 => absurd c_36 (by omega)) (fun c_36 => ?_)
    refine lv_iconst (v := nI 0) hx hb dX5_at_39 (by decide) ?_
    have hP9 := hP.sub (ws' := [(g0, .inr (5, [.int (nI 2), .ref qD, .ref qT, .int (nI U), .int (pI le wl), .int wd, .ref qN, .ref qO, .ref qS, .ref qC, .ref qP, .ref qG, .ref qB, .ref qF, .ref qX]))]) [0] rfl
    have hD9 := hD.sub (ws' := [(g0, .inr (5, [.int (nI 2), .ref qD, .ref qT, .int (nI U), .int (pI le wl), .int wd, .ref qN, .ref qO, .ref qS, .ref qC, .ref qP, .ref qG, .ref qB, .ref qF, .ref qX]))]) [0] (by decide) rfl
    exact W.iret (v := nI 0) hx hb hr (fun t ht hW => ⟨⟨nI 0, (), rfl, trivial, by rw [ht]; exact hP9, hD9⟩, hS.F ht⟩) hS.2.2 dX5_at_40

set_option maxHeartbeats 4000000 in
set_option maxRecDepth 100000 in
theorem kX5_has_b2 (l : Launch) (dd : va_G) (cI cZ cR cJ : ClassId) (g0 : Nat) (th : Nat) (U : Nat) (le : Bool) (wl : Nat) (wd : Int32) (qD : Nat) (qT : Nat) (qN : Nat) (qO : Nat) (qS : Nat) (qC : Nat) (qP : Nat) (qG : Nat) (qB : Nat) (qF : Nat) (qX : Nat) (ci : Nat) (x : Int32) (sz : Nat) (hci : ci < 4) (hbad : x < 0 ∨ ¬ x ≤ nI 10) : Met l yX5_has wsX5_has ({ frames := 0, cells := 0, slots := 0, locals := 0 }) (va_Pc [.ref g0, .int (nI ci), .int x] (qm dd cI cZ cR cJ sz [(g0, .inr (5, [.int (nI th), .ref qD, .ref qT, .int (nI U), .int (pI le wl), .int wd, .ref qN, .ref qO, .ref qS, .ref qC, .ref qP, .ref qG, .ref qB, .ref qF, .ref qX]))])) (va_Qi (fun (r : Int32) (u : Unit) => True) (fun u t => qa dd (va_A [(g0, .inr (5, [.int (nI th), .ref qD, .ref qT, .int (nI U), .int (pI le wl), .int wd, .ref qN, .ref qO, .ref qS, .ref qC, .ref qP, .ref qG, .ref qB, .ref qF, .ref qX]))] sz) [(g0, .inr (5, [.int (nI 2), .ref qD, .ref qT, .int (nI U), .int (pI le wl), .int wd, .ref qN, .ref qO, .ref qS, .ref qC, .ref qP, .ref qG, .ref qB, .ref qF, .ref qX]))] t) (va_A [(g0, .inr (5, [.int (nI th), .ref qD, .ref qT, .int (nI U), .int (pI le wl), .int wd, .ref qN, .ref qO, .ref qS, .ref qC, .ref qP, .ref qG, .ref qB, .ref qF, .ref qX]))] sz)) 0 0 (va_A [(g0, .inr (5, [.int (nI th), .ref qD, .ref qT, .int (nI U), .int (pI le wl), .int wd, .ref qN, .ref qO, .ref qS, .ref qC, .ref qP, .ref qG, .ref qB, .ref qF, .ref qX]))] sz) := by
  refine mk_mut (cc := cX5_has) (maxL := 3) (ret := (some .int)) (Qf := fun A => va_Qi (fun (r : Int32) (u : Unit) => True) (fun u t => qa dd A [(g0, .inr (5, [.int (nI 2), .ref qD, .ref qT, .int (nI U), .int (pI le wl), .int wd, .ref qN, .ref qO, .ref qS, .ref qC, .ref qP, .ref qG, .ref qB, .ref qF, .ref qX]))] t) A) (by decide) rfl (Nat.le_of_ble_eq_true rfl) ?_
  intro p e s m below meth c A hx hb hr hts hown hlocks hml hin hP hD hA hS hK ls hl
  have hown : s.vm.findClass RX5 = some m.cls := hown
  have hl : lv_has ls 3 [(0, .ref g0), (1, .int (nI ci)), (2, .int x)] := hl
  have hf_48 := hts (.fieldLink RX5 48 "RecordSystemModel" "thrown" "I") (by decide +kernel)
  have hin_X5 : ∀ w ∈ wsX50, w ∈ wsX5_has := by decide +kernel
  refine lv_aload_n hx hb dX5_has_0 rfl (lv_at hl 0 rfl) ?_
  refine lv_iload_n hx hb dX5_has_1 rfl (lv_at hl 1 rfl) ?_
  refine nr_if_lt (tgt := 10) hx hb (by omega) dX5_has_2 (by decide) ?_
  refine lv_iload_n hx hb dX5_has_5 rfl (lv_at hl 1 rfl) ?_
  refine lv_iconst (v := nI 3) hx hb dX5_has_6 (by decide) ?_
  refine nr_le (tgt := 14) hx hb (by omega) (by omega) dX5_has_7 (by decide) (fun c_7 => ?_) (fun c_7 => absurd c_7 (by omega))
  refine lv_iload_n hx hb dX5_has_14 rfl (lv_at hl 2 rfl) ?_
  refine lv_if_lt (tgt := 24) hx hb dX5_has_15 (by decide) (fun c_15 => ?_) (fun c_15 => ?_)
  · refine lv_iconst (v := nI 2) hx hb dX5_has_24 (by decide) ?_
    refine lv_goto (tgt := 29) hx hb dX5_has_25 (by decide) ?_
    refine va_put (D := dd) (ci := 5) (v := .int (nI 2)) (ty := .int) (C := RX5) (T := TX5) (N := 15) hx hb hts hin_X5 tyX5 tyX5_ok nmX5 hown hK.1 hP hD hS 0 rfl rfl 0 (by decide) hf_48 (fun _ h9 => h9) rfl (by decide +kernel) rfl rfl (Nat.le_of_ble_eq_true rfl) dX5_has_29 (fun H locs hP hD hS => ?_)
    have hP : va_P dd vwCl [(g0, .inr (5, [.int (nI 2), .ref qD, .ref qT, .int (nI U), .int (pI le wl), .int wd, .ref qN, .ref qO, .ref qS, .ref qC, .ref qP, .ref qG, .ref qB, .ref qF, .ref qX]))] H := hP
    have hD : va_D A [(g0, .inr (5, [.int (nI 2), .ref qD, .ref qT, .int (nI U), .int (pI le wl), .int wd, .ref qN, .ref qO, .ref qS, .ref qC, .ref qP, .ref qG, .ref qB, .ref qF, .ref qX]))] := hD
    refine lv_aload_n hx hb dX5_has_32 rfl (lv_at hl 0 rfl) ?_
    refine va_get (D := dd) (ci := 5) (v := .int (nI 2)) (C := RX5) (T := TX5) (N := 15) hx hb hts hin_X5 hown hK.1 hP 0 rfl rfl 0 (by decide) hf_48 (fun _ h9 => h9) rfl dX5_has_33 ?_
    refine nr_if_gt (tgt := 48) hx hb (by omega) dX5_has_36 (by decide) (fun c_36 => ?_) (fun c_36 => absurd c_36 (by omega))
    refine lv_iconst (v := nI 0) hx hb dX5_has_48 (by decide) ?_
    have hP9 := hP.sub (ws' := [(g0, .inr (5, [.int (nI 2), .ref qD, .ref qT, .int (nI U), .int (pI le wl), .int wd, .ref qN, .ref qO, .ref qS, .ref qC, .ref qP, .ref qG, .ref qB, .ref qF, .ref qX]))]) [0] rfl
    have hD9 := hD.sub (ws' := [(g0, .inr (5, [.int (nI 2), .ref qD, .ref qT, .int (nI U), .int (pI le wl), .int wd, .ref qN, .ref qO, .ref qS, .ref qC, .ref qP, .ref qG, .ref qB, .ref qF, .ref qX]))]) [0] (by decide) rfl
    exact W.iret (v := nI 0) hx hb hr (fun t ht hW => ⟨⟨nI 0, (), rfl, trivial, by rw [ht]; exact hP9, hD9⟩, hS.F ht⟩) hS.2.2 dX5_has_49
  · refine lv_iload_n hx hb dX5_has_18 rfl (lv_at hl 2 rfl) ?_
    refine lv_bipush (v := nI 10) hx hb dX5_has_19 (by decide) ?_
    refine lv_icmp_le (tgt := 28) hx hb dX5_has_21 (by decide) (fun c_21 => absurd c_21 (hbad.resolve_left c_15)) (fun c_21 => ?_)
    refine lv_iconst (v := nI 2) hx hb dX5_has_24 (by decide) ?_
    refine lv_goto (tgt := 29) hx hb dX5_has_25 (by decide) ?_
    refine va_put (D := dd) (ci := 5) (v := .int (nI 2)) (ty := .int) (C := RX5) (T := TX5) (N := 15) hx hb hts hin_X5 tyX5 tyX5_ok nmX5 hown hK.1 hP hD hS 0 rfl rfl 0 (by decide) hf_48 (fun _ h9 => h9) rfl (by decide +kernel) rfl rfl (Nat.le_of_ble_eq_true rfl) dX5_has_29 (fun H locs hP hD hS => ?_)
    have hP : va_P dd vwCl [(g0, .inr (5, [.int (nI 2), .ref qD, .ref qT, .int (nI U), .int (pI le wl), .int wd, .ref qN, .ref qO, .ref qS, .ref qC, .ref qP, .ref qG, .ref qB, .ref qF, .ref qX]))] H := hP
    have hD : va_D A [(g0, .inr (5, [.int (nI 2), .ref qD, .ref qT, .int (nI U), .int (pI le wl), .int wd, .ref qN, .ref qO, .ref qS, .ref qC, .ref qP, .ref qG, .ref qB, .ref qF, .ref qX]))] := hD
    refine lv_aload_n hx hb dX5_has_32 rfl (lv_at hl 0 rfl) ?_
    refine va_get (D := dd) (ci := 5) (v := .int (nI 2)) (C := RX5) (T := TX5) (N := 15) hx hb hts hin_X5 hown hK.1 hP 0 rfl rfl 0 (by decide) hf_48 (fun _ h9 => h9) rfl dX5_has_33 ?_
    refine nr_if_gt (tgt := 48) hx hb (by omega) dX5_has_36 (by decide) (fun c_36 => ?_) (fun c_36 => absurd c_36 (by omega))
    refine lv_iconst (v := nI 0) hx hb dX5_has_48 (by decide) ?_
    have hP9 := hP.sub (ws' := [(g0, .inr (5, [.int (nI 2), .ref qD, .ref qT, .int (nI U), .int (pI le wl), .int wd, .ref qN, .ref qO, .ref qS, .ref qC, .ref qP, .ref qG, .ref qB, .ref qF, .ref qX]))]) [0] rfl
    have hD9 := hD.sub (ws' := [(g0, .inr (5, [.int (nI 2), .ref qD, .ref qT, .int (nI U), .int (pI le wl), .int wd, .ref qN, .ref qO, .ref qS, .ref qC, .ref qP, .ref qG, .ref qB, .ref qF, .ref qX]))]) [0] (by decide) rfl
    exact W.iret (v := nI 0) hx hb hr (fun t ht hW => ⟨⟨nI 0, (), rfl, trivial, by rw [ht]; exact hP9, hD9⟩, hS.F ht⟩) hS.2.2 dX5_has_49

set_option maxHeartbeats 4000000 in
set_option maxRecDepth 100000 in
theorem kX5_set_b2 (l : Launch) (dd : va_G) (cI cZ cR cJ : ClassId) (g0 : Nat) (th : Nat) (U : Nat) (le : Bool) (wl : Nat) (wd : Int32) (qD : Nat) (qT : Nat) (qN : Nat) (qO : Nat) (qS : Nat) (qC : Nat) (qP : Nat) (qG : Nat) (qB : Nat) (qF : Nat) (qX : Nat) (i : Nat) (x : Int32) (sz : Nat) (hi : i < 16) (hbad : x < 0 ∨ ¬ x ≤ nI 255) : Met l yX5_set wsX5_set ({ frames := 0, cells := 0, slots := 0, locals := 0 }) (va_Pc [.ref g0, .int (nI i), .int x] (qm dd cI cZ cR cJ sz [(g0, .inr (5, [.int (nI th), .ref qD, .ref qT, .int (nI U), .int (pI le wl), .int wd, .ref qN, .ref qO, .ref qS, .ref qC, .ref qP, .ref qG, .ref qB, .ref qF, .ref qX]))])) (va_Qi (fun (r : Int32) (u : Unit) => True) (fun u t => qa dd (va_A [(g0, .inr (5, [.int (nI th), .ref qD, .ref qT, .int (nI U), .int (pI le wl), .int wd, .ref qN, .ref qO, .ref qS, .ref qC, .ref qP, .ref qG, .ref qB, .ref qF, .ref qX]))] sz) [(g0, .inr (5, [.int (nI 2), .ref qD, .ref qT, .int (nI U), .int (pI le wl), .int wd, .ref qN, .ref qO, .ref qS, .ref qC, .ref qP, .ref qG, .ref qB, .ref qF, .ref qX]))] t) (va_A [(g0, .inr (5, [.int (nI th), .ref qD, .ref qT, .int (nI U), .int (pI le wl), .int wd, .ref qN, .ref qO, .ref qS, .ref qC, .ref qP, .ref qG, .ref qB, .ref qF, .ref qX]))] sz)) 0 0 (va_A [(g0, .inr (5, [.int (nI th), .ref qD, .ref qT, .int (nI U), .int (pI le wl), .int wd, .ref qN, .ref qO, .ref qS, .ref qC, .ref qP, .ref qG, .ref qB, .ref qF, .ref qX]))] sz) := by
  refine mk_mut (cc := cX5_set) (maxL := 4) (ret := (some .int)) (Qf := fun A => va_Qi (fun (r : Int32) (u : Unit) => True) (fun u t => qa dd A [(g0, .inr (5, [.int (nI 2), .ref qD, .ref qT, .int (nI U), .int (pI le wl), .int wd, .ref qN, .ref qO, .ref qS, .ref qC, .ref qP, .ref qG, .ref qB, .ref qF, .ref qX]))] t) A) (by decide) rfl (Nat.le_of_ble_eq_true rfl) ?_
  intro p e s m below meth c A hx hb hr hts hown hlocks hml hin hP hD hA hS hK ls hl
  have hown : s.vm.findClass RX5 = some m.cls := hown
  have hl : lv_has ls 4 [(0, .ref g0), (1, .int (nI i)), (2, .int x)] := hl
  have hf_48 := hts (.fieldLink RX5 48 "RecordSystemModel" "thrown" "I") (by decide +kernel)
  have hin_X5 : ∀ w ∈ wsX50, w ∈ wsX5_set := by decide +kernel
  refine lv_aload_n hx hb dX5_set_0 rfl (lv_at hl 0 rfl) ?_
  refine lv_iload_n hx hb dX5_set_1 rfl (lv_at hl 1 rfl) ?_
  refine nr_if_lt (tgt := 11) hx hb (by omega) dX5_set_2 (by decide) ?_
  refine lv_iload_n hx hb dX5_set_5 rfl (lv_at hl 1 rfl) ?_
  refine lv_bipush (v := nI 15) hx hb dX5_set_6 (by decide) ?_
  refine nr_le (tgt := 15) hx hb (by omega) (by omega) dX5_set_8 (by decide) (fun c_8 => ?_) (fun c_8 => absurd c_8 (by omega))
  refine lv_iload_n hx hb dX5_set_15 rfl (lv_at hl 2 rfl) ?_
  refine lv_if_lt (tgt := 26) hx hb dX5_set_16 (by decide) (fun c_16 => ?_) (fun c_16 => ?_)
  · refine lv_iconst (v := nI 2) hx hb dX5_set_26 (by decide) ?_
    refine lv_goto (tgt := 31) hx hb dX5_set_27 (by decide) ?_
    refine va_put (D := dd) (ci := 5) (v := .int (nI 2)) (ty := .int) (C := RX5) (T := TX5) (N := 15) hx hb hts hin_X5 tyX5 tyX5_ok nmX5 hown hK.1 hP hD hS 0 rfl rfl 0 (by decide) hf_48 (fun _ h9 => h9) rfl (by decide +kernel) rfl rfl (Nat.le_of_ble_eq_true rfl) dX5_set_31 (fun H locs hP hD hS => ?_)
    have hP : va_P dd vwCl [(g0, .inr (5, [.int (nI 2), .ref qD, .ref qT, .int (nI U), .int (pI le wl), .int wd, .ref qN, .ref qO, .ref qS, .ref qC, .ref qP, .ref qG, .ref qB, .ref qF, .ref qX]))] H := hP
    have hD : va_D A [(g0, .inr (5, [.int (nI 2), .ref qD, .ref qT, .int (nI U), .int (pI le wl), .int wd, .ref qN, .ref qO, .ref qS, .ref qC, .ref qP, .ref qG, .ref qB, .ref qF, .ref qX]))] := hD
    refine lv_aload_n hx hb dX5_set_34 rfl (lv_at hl 0 rfl) ?_
    refine va_get (D := dd) (ci := 5) (v := .int (nI 2)) (C := RX5) (T := TX5) (N := 15) hx hb hts hin_X5 hown hK.1 hP 0 rfl rfl 0 (by decide) hf_48 (fun _ h9 => h9) rfl dX5_set_35 ?_
    refine nr_if_le (tgt := 43) hx hb (by omega) dX5_set_38 (by decide) (fun c_38 => absurd c_38 (by omega)) (fun c_38 => ?_)
    refine lv_iconst (v := nI 0) hx hb dX5_set_41 (by decide) ?_
    have hP9 := hP.sub (ws' := [(g0, .inr (5, [.int (nI 2), .ref qD, .ref qT, .int (nI U), .int (pI le wl), .int wd, .ref qN, .ref qO, .ref qS, .ref qC, .ref qP, .ref qG, .ref qB, .ref qF, .ref qX]))]) [0] rfl
    have hD9 := hD.sub (ws' := [(g0, .inr (5, [.int (nI 2), .ref qD, .ref qT, .int (nI U), .int (pI le wl), .int wd, .ref qN, .ref qO, .ref qS, .ref qC, .ref qP, .ref qG, .ref qB, .ref qF, .ref qX]))]) [0] (by decide) rfl
    exact W.iret (v := nI 0) hx hb hr (fun t ht hW => ⟨⟨nI 0, (), rfl, trivial, by rw [ht]; exact hP9, hD9⟩, hS.F ht⟩) hS.2.2 dX5_set_42
  · refine lv_iload_n hx hb dX5_set_19 rfl (lv_at hl 2 rfl) ?_
    refine lv_sipush (v := nI 255) hx hb dX5_set_20 (by decide) ?_
    refine lv_icmp_le (tgt := 30) hx hb dX5_set_23 (by decide) (fun c_23 => absurd c_23 (hbad.resolve_left c_16)) (fun c_23 => ?_)
    refine lv_iconst (v := nI 2) hx hb dX5_set_26 (by decide) ?_
    refine lv_goto (tgt := 31) hx hb dX5_set_27 (by decide) ?_
    refine va_put (D := dd) (ci := 5) (v := .int (nI 2)) (ty := .int) (C := RX5) (T := TX5) (N := 15) hx hb hts hin_X5 tyX5 tyX5_ok nmX5 hown hK.1 hP hD hS 0 rfl rfl 0 (by decide) hf_48 (fun _ h9 => h9) rfl (by decide +kernel) rfl rfl (Nat.le_of_ble_eq_true rfl) dX5_set_31 (fun H locs hP hD hS => ?_)
    have hP : va_P dd vwCl [(g0, .inr (5, [.int (nI 2), .ref qD, .ref qT, .int (nI U), .int (pI le wl), .int wd, .ref qN, .ref qO, .ref qS, .ref qC, .ref qP, .ref qG, .ref qB, .ref qF, .ref qX]))] H := hP
    have hD : va_D A [(g0, .inr (5, [.int (nI 2), .ref qD, .ref qT, .int (nI U), .int (pI le wl), .int wd, .ref qN, .ref qO, .ref qS, .ref qC, .ref qP, .ref qG, .ref qB, .ref qF, .ref qX]))] := hD
    refine lv_aload_n hx hb dX5_set_34 rfl (lv_at hl 0 rfl) ?_
    refine va_get (D := dd) (ci := 5) (v := .int (nI 2)) (C := RX5) (T := TX5) (N := 15) hx hb hts hin_X5 hown hK.1 hP 0 rfl rfl 0 (by decide) hf_48 (fun _ h9 => h9) rfl dX5_set_35 ?_
    refine nr_if_le (tgt := 43) hx hb (by omega) dX5_set_38 (by decide) (fun c_38 => absurd c_38 (by omega)) (fun c_38 => ?_)
    refine lv_iconst (v := nI 0) hx hb dX5_set_41 (by decide) ?_
    have hP9 := hP.sub (ws' := [(g0, .inr (5, [.int (nI 2), .ref qD, .ref qT, .int (nI U), .int (pI le wl), .int wd, .ref qN, .ref qO, .ref qS, .ref qC, .ref qP, .ref qG, .ref qB, .ref qF, .ref qX]))]) [0] rfl
    have hD9 := hD.sub (ws' := [(g0, .inr (5, [.int (nI 2), .ref qD, .ref qT, .int (nI U), .int (pI le wl), .int wd, .ref qN, .ref qO, .ref qS, .ref qC, .ref qP, .ref qG, .ref qB, .ref qF, .ref qX]))]) [0] (by decide) rfl
    exact W.iret (v := nI 0) hx hb hr (fun t ht hW => ⟨⟨nI 0, (), rfl, trivial, by rw [ht]; exact hP9, hD9⟩, hS.F ht⟩) hS.2.2 dX5_set_42

set_option maxHeartbeats 4000000 in
set_option maxRecDepth 100000 in
theorem kX5_spoil_b2 (l : Launch) (dd : va_G) (cI cZ cR cJ : ClassId) (g0 : Nat) (th : Nat) (U : Nat) (le : Bool) (wl : Nat) (wd : Int32) (qD : Nat) (qT : Nat) (qN : Nat) (qO : Nat) (qS : Nat) (qC : Nat) (qP : Nat) (qG : Nat) (qB : Nat) (qF : Nat) (qX : Nat) (i : Nat) (x : Int32) (sz : Nat) (hi : i < 4096) (hbad : x < 0 ∨ ¬ x ≤ nI 255) : Met l yX5_spoil wsX5_spoil ({ frames := 0, cells := 0, slots := 0, locals := 0 }) (va_Pc [.ref g0, .int (nI i), .int x] (qm dd cI cZ cR cJ sz [(g0, .inr (5, [.int (nI th), .ref qD, .ref qT, .int (nI U), .int (pI le wl), .int wd, .ref qN, .ref qO, .ref qS, .ref qC, .ref qP, .ref qG, .ref qB, .ref qF, .ref qX]))])) (va_Qv (fun u : Unit => True) (fun u t => qa dd (va_A [(g0, .inr (5, [.int (nI th), .ref qD, .ref qT, .int (nI U), .int (pI le wl), .int wd, .ref qN, .ref qO, .ref qS, .ref qC, .ref qP, .ref qG, .ref qB, .ref qF, .ref qX]))] sz) [(g0, .inr (5, [.int (nI 2), .ref qD, .ref qT, .int (nI U), .int (pI le wl), .int wd, .ref qN, .ref qO, .ref qS, .ref qC, .ref qP, .ref qG, .ref qB, .ref qF, .ref qX]))] t) (va_A [(g0, .inr (5, [.int (nI th), .ref qD, .ref qT, .int (nI U), .int (pI le wl), .int wd, .ref qN, .ref qO, .ref qS, .ref qC, .ref qP, .ref qG, .ref qB, .ref qF, .ref qX]))] sz)) 0 0 (va_A [(g0, .inr (5, [.int (nI th), .ref qD, .ref qT, .int (nI U), .int (pI le wl), .int wd, .ref qN, .ref qO, .ref qS, .ref qC, .ref qP, .ref qG, .ref qB, .ref qF, .ref qX]))] sz) := by
  refine mk_mut (cc := cX5_spoil) (maxL := 3) (ret := none) (Qf := fun A => va_Qv (fun u : Unit => True) (fun u t => qa dd A [(g0, .inr (5, [.int (nI 2), .ref qD, .ref qT, .int (nI U), .int (pI le wl), .int wd, .ref qN, .ref qO, .ref qS, .ref qC, .ref qP, .ref qG, .ref qB, .ref qF, .ref qX]))] t) A) (by decide) rfl (Nat.le_of_ble_eq_true rfl) ?_
  intro p e s m below meth c A hx hb hr hts hown hlocks hml hin hP hD hA hS hK ls hl
  have hown : s.vm.findClass RX5 = some m.cls := hown
  have hl : lv_has ls 3 [(0, .ref g0), (1, .int (nI i)), (2, .int x)] := hl
  have hf_48 := hts (.fieldLink RX5 48 "RecordSystemModel" "thrown" "I") (by decide +kernel)
  have hin_X5 : ∀ w ∈ wsX50, w ∈ wsX5_spoil := by decide +kernel
  refine lv_aload_n hx hb dX5_spoil_0 rfl (lv_at hl 0 rfl) ?_
  refine lv_iload_n hx hb dX5_spoil_1 rfl (lv_at hl 1 rfl) ?_
  refine nr_if_lt (tgt := 12) hx hb (by omega) dX5_spoil_2 (by decide) ?_
  refine lv_iload_n hx hb dX5_spoil_5 rfl (lv_at hl 1 rfl) ?_
  refine lv_sipush (v := nI 4095) hx hb dX5_spoil_6 (by decide) ?_
  refine nr_le (tgt := 16) hx hb (by omega) (by omega) dX5_spoil_9 (by decide) (fun c_9 => ?_) (fun c_9 => absurd c_9 (by omega))
  refine lv_iload_n hx hb dX5_spoil_16 rfl (lv_at hl 2 rfl) ?_
  refine lv_if_lt (tgt := 27) hx hb dX5_spoil_17 (by decide) (fun c_17 => ?_) (fun c_17 => ?_)
  · refine lv_iconst (v := nI 2) hx hb dX5_spoil_27 (by decide) ?_
    refine lv_goto (tgt := 32) hx hb dX5_spoil_28 (by decide) ?_
    refine va_put (D := dd) (ci := 5) (v := .int (nI 2)) (ty := .int) (C := RX5) (T := TX5) (N := 15) hx hb hts hin_X5 tyX5 tyX5_ok nmX5 hown hK.1 hP hD hS 0 rfl rfl 0 (by decide) hf_48 (fun _ h9 => h9) rfl (by decide +kernel) rfl rfl (Nat.le_of_ble_eq_true rfl) dX5_spoil_32 (fun H locs hP hD hS => ?_)
    have hP : va_P dd vwCl [(g0, .inr (5, [.int (nI 2), .ref qD, .ref qT, .int (nI U), .int (pI le wl), .int wd, .ref qN, .ref qO, .ref qS, .ref qC, .ref qP, .ref qG, .ref qB, .ref qF, .ref qX]))] H := hP
    have hD : va_D A [(g0, .inr (5, [.int (nI 2), .ref qD, .ref qT, .int (nI U), .int (pI le wl), .int wd, .ref qN, .ref qO, .ref qS, .ref qC, .ref qP, .ref qG, .ref qB, .ref qF, .ref qX]))] := hD
    refine lv_aload_n hx hb dX5_spoil_35 rfl (lv_at hl 0 rfl) ?_
    refine va_get (D := dd) (ci := 5) (v := .int (nI 2)) (C := RX5) (T := TX5) (N := 15) hx hb hts hin_X5 hown hK.1 hP 0 rfl rfl 0 (by decide) hf_48 (fun _ h9 => h9) rfl dX5_spoil_36 ?_
    refine nr_if_ne (tgt := 49) hx hb (by omega) dX5_spoil_39 (by decide) (fun c_39 => ?_) (fun c_39 => absurd c_39 (by omega))
    have hP9 := hP.sub (ws' := [(g0, .inr (5, [.int (nI 2), .ref qD, .ref qT, .int (nI U), .int (pI le wl), .int wd, .ref qN, .ref qO, .ref qS, .ref qC, .ref qP, .ref qG, .ref qB, .ref qF, .ref qX]))]) [0] rfl
    have hD9 := hD.sub (ws' := [(g0, .inr (5, [.int (nI 2), .ref qD, .ref qT, .int (nI U), .int (pI le wl), .int wd, .ref qN, .ref qO, .ref qS, .ref qC, .ref qP, .ref qG, .ref qB, .ref qF, .ref qX]))]) [0] (by decide) rfl
    exact W.vret hx hb hr (fun t ht hW => ⟨⟨(), rfl, trivial, by rw [ht]; exact hP9, hD9⟩, hS.F ht⟩) hS.2.2 dX5_spoil_49
  · refine lv_iload_n hx hb dX5_spoil_20 rfl (lv_at hl 2 rfl) ?_
    refine lv_sipush (v := nI 255) hx hb dX5_spoil_21 (by decide) ?_
    refine lv_icmp_le (tgt := 31) hx hb dX5_spoil_24 (by decide) (fun c_24 => absurd c_24 (hbad.resolve_left c_17)) (fun c_24 => ?_)
    refine lv_iconst (v := nI 2) hx hb dX5_spoil_27 (by decide) ?_
    refine lv_goto (tgt := 32) hx hb dX5_spoil_28 (by decide) ?_
    refine va_put (D := dd) (ci := 5) (v := .int (nI 2)) (ty := .int) (C := RX5) (T := TX5) (N := 15) hx hb hts hin_X5 tyX5 tyX5_ok nmX5 hown hK.1 hP hD hS 0 rfl rfl 0 (by decide) hf_48 (fun _ h9 => h9) rfl (by decide +kernel) rfl rfl (Nat.le_of_ble_eq_true rfl) dX5_spoil_32 (fun H locs hP hD hS => ?_)
    have hP : va_P dd vwCl [(g0, .inr (5, [.int (nI 2), .ref qD, .ref qT, .int (nI U), .int (pI le wl), .int wd, .ref qN, .ref qO, .ref qS, .ref qC, .ref qP, .ref qG, .ref qB, .ref qF, .ref qX]))] H := hP
    have hD : va_D A [(g0, .inr (5, [.int (nI 2), .ref qD, .ref qT, .int (nI U), .int (pI le wl), .int wd, .ref qN, .ref qO, .ref qS, .ref qC, .ref qP, .ref qG, .ref qB, .ref qF, .ref qX]))] := hD
    refine lv_aload_n hx hb dX5_spoil_35 rfl (lv_at hl 0 rfl) ?_
    refine va_get (D := dd) (ci := 5) (v := .int (nI 2)) (C := RX5) (T := TX5) (N := 15) hx hb hts hin_X5 hown hK.1 hP 0 rfl rfl 0 (by decide) hf_48 (fun _ h9 => h9) rfl dX5_spoil_36 ?_
    refine nr_if_ne (tgt := 49) hx hb (by omega) dX5_spoil_39 (by decide) (fun c_39 => ?_) (fun c_39 => absurd c_39 (by omega))
    have hP9 := hP.sub (ws' := [(g0, .inr (5, [.int (nI 2), .ref qD, .ref qT, .int (nI U), .int (pI le wl), .int wd, .ref qN, .ref qO, .ref qS, .ref qC, .ref qP, .ref qG, .ref qB, .ref qF, .ref qX]))]) [0] rfl
    have hD9 := hD.sub (ws' := [(g0, .inr (5, [.int (nI 2), .ref qD, .ref qT, .int (nI U), .int (pI le wl), .int wd, .ref qN, .ref qO, .ref qS, .ref qC, .ref qP, .ref qG, .ref qB, .ref qF, .ref qX]))]) [0] (by decide) rfl
    exact W.vret hx hb hr (fun t ht hW => ⟨⟨(), rfl, trivial, by rw [ht]; exact hP9, hD9⟩, hS.F ht⟩) hS.2.2 dX5_spoil_49
