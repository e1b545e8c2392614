theorem lw_login {p : Program} {l : Launch} {e : Env} {s : State} {m : MethodId} {below : List Frame} {meth : Method} {c : Code} {b : Nat} {dd : va_G} {cI cZ cR cJ : ClassId} {A : Nat → Prop} {L : Nat} {sc : Nat → Int32} {h0 : Nat} {q1 : Nat} {q2 : Nat} {q3 : Nat} {qs : Nat} {qh : Nat} {q4 : Nat} {qd : Nat} {qt : Nat} {qn : Nat} {cf : Nat → Option Nat} {xa : Nat → Nat} {wa : Nat → Nat} {ka : Nat → Nat} {g0 : Nat} {qD : Nat} {qT : Nat} {qN : Nat} {qO : Nat} {qS : Nat} {qC : Nat} {qP : Nat} {qG : Nat} {qB : Nat} {qF : Nat} {qX : Nat} {qo : Nat} {k ce sl : Nat} (C : lwC p l s m c b L sc dd cI cZ cR cJ A) (F : ∀ i, i < 4 → cf i = some (xa i)) (hL : L ≤ 2048) (hk : 4 * k + 4 ≤ L) (hce : ce + 1 ≤ room_1.cells) (hsl : sl + 6 ≤ room_1.slots) (K : LI p l e s m below meth c b dd cI cZ cR cJ A h0 q1 q2 q3 qs qh q4 qd qt qn cf xa wa ka g0 qD qT qN qO qS qC qP qG qB qF qX qo k (ce + 1) (sl + 6) 1363) : LI p l e s m below meth c b dd cI cZ cR cJ A h0 q1 q2 q3 qs qh q4 qd qt qn cf xa wa ka g0 qD qT qN qO qS qC qP qG qB qF qX qo k ce sl 132 := by
  rcases ix_cases (sc (4 * k + 1)) 16 (by omega) (by omega) with ⟨x1, hx1, e1⟩ | ⟨h1, h2⟩
  · exact lw_login_v C F hL hk hce hsl K (by omega) e1
  · exact lw_login_b1 C F hL hk hce hsl K h2 h2

theorem lw_power {p : Program} {l : Launch} {e : Env} {s : State} {m : MethodId} {below : List Frame} {meth : Method} {c : Code} {b : Nat} {dd : va_G} {cI cZ cR cJ : ClassId} {A : Nat → Prop} {L : Nat} {sc : Nat → Int32} {h0 : Nat} {q1 : Nat} {q2 : Nat} {q3 : Nat} {qs : Nat} {qh : Nat} {q4 : Nat} {qd : Nat} {qt : Nat} {qn : Nat} {cf : Nat → Option Nat} {xa : Nat → Nat} {wa : Nat → Nat} {ka : Nat → Nat} {g0 : Nat} {qD : Nat} {qT : Nat} {qN : Nat} {qO : Nat} {qS : Nat} {qC : Nat} {qP : Nat} {qG : Nat} {qB : Nat} {qF : Nat} {qX : Nat} {qo : Nat} {k ce sl : Nat} (C : lwC p l s m c b L sc dd cI cZ cR cJ A) (F : ∀ i, i < 4 → cf i = some (xa i)) (hL : L ≤ 2048) (hk : 4 * k + 4 ≤ L) (hce : ce + 1 ≤ room_1.cells) (hsl : sl + 6 ≤ room_1.slots) (K : LI p l e s m below meth c b dd cI cZ cR cJ A h0 q1 q2 q3 qs qh q4 qd qt qn cf xa wa ka g0 qD qT qN qO qS qC qP qG qB qF qX qo k (ce + 1) (sl + 6) 1363) : LI p l e s m below meth c b dd cI cZ cR cJ A h0 q1 q2 q3 qs qh q4 qd qt qn cf xa wa ka g0 qD qT qN qO qS qC qP qG qB qF qX qo k ce sl 188 := by
  rcases ix_cases (sc (4 * k + 1)) 1001 (by omega) (by omega) with ⟨x1, hx1, e1⟩ | ⟨h1, h2⟩
  · exact lw_power_v C F hL hk hce hsl K (by omega) e1
  · exact lw_power_b1 C F hL hk hce hsl K h2 h2

theorem lw_name {p : Program} {l : Launch} {e : Env} {s : State} {m : MethodId} {below : List Frame} {meth : Method} {c : Code} {b : Nat} {dd : va_G} {cI cZ cR cJ : ClassId} {A : Nat → Prop} {L : Nat} {sc : Nat → Int32} {h0 : Nat} {q1 : Nat} {q2 : Nat} {q3 : Nat} {qs : Nat} {qh : Nat} {q4 : Nat} {qd : Nat} {qt : Nat} {qn : Nat} {cf : Nat → Option Nat} {xa : Nat → Nat} {wa : Nat → Nat} {ka : Nat → Nat} {g0 : Nat} {qD : Nat} {qT : Nat} {qN : Nat} {qO : Nat} {qS : Nat} {qC : Nat} {qP : Nat} {qG : Nat} {qB : Nat} {qF : Nat} {qX : Nat} {qo : Nat} {k ce sl : Nat} (C : lwC p l s m c b L sc dd cI cZ cR cJ A) (F : ∀ i, i < 4 → cf i = some (xa i)) (hL : L ≤ 2048) (hk : 4 * k + 4 ≤ L) (hce : ce + 1 ≤ room_1.cells) (hsl : sl + 6 ≤ room_1.slots) (K : LI p l e s m below meth c b dd cI cZ cR cJ A h0 q1 q2 q3 qs qh q4 qd qt qn cf xa wa ka g0 qD qT qN qO qS qC qP qG qB qF qX qo k (ce + 1) (sl + 6) 1363) : LI p l e s m below meth c b dd cI cZ cR cJ A h0 q1 q2 q3 qs qh q4 qd qt qn cf xa wa ka g0 qD qT qN qO qS qC qP qG qB qF qX qo k ce sl 224 := by
  rcases ix_cases (sc (4 * k + 1)) 4 (by omega) (by omega) with ⟨x1, hx1, e1⟩ | ⟨h1, h2⟩
  · exact lw_name_v C F hL hk hce hsl K hx1 e1
  · exact lw_name_b1 C F hL hk hce hsl K h1 h2

theorem lw_open {p : Program} {l : Launch} {e : Env} {s : State} {m : MethodId} {below : List Frame} {meth : Method} {c : Code} {b : Nat} {dd : va_G} {cI cZ cR cJ : ClassId} {A : Nat → Prop} {L : Nat} {sc : Nat → Int32} {h0 : Nat} {q1 : Nat} {q2 : Nat} {q3 : Nat} {qs : Nat} {qh : Nat} {q4 : Nat} {qd : Nat} {qt : Nat} {qn : Nat} {cf : Nat → Option Nat} {xa : Nat → Nat} {wa : Nat → Nat} {ka : Nat → Nat} {g0 : Nat} {qD : Nat} {qT : Nat} {qN : Nat} {qO : Nat} {qS : Nat} {qC : Nat} {qP : Nat} {qG : Nat} {qB : Nat} {qF : Nat} {qX : Nat} {qo : Nat} {k ce sl : Nat} (C : lwC p l s m c b L sc dd cI cZ cR cJ A) (F : ∀ i, i < 4 → cf i = some (xa i)) (hL : L ≤ 2048) (hk : 4 * k + 4 ≤ L) (hce : ce + 1 ≤ room_1.cells) (hsl : sl + 6 ≤ room_1.slots) (K : LI p l e s m below meth c b dd cI cZ cR cJ A h0 q1 q2 q3 qs qh q4 qd qt qn cf xa wa ka g0 qD qT qN qO qS qC qP qG qB qF qX qo k (ce + 1) (sl + 6) 1363) : LI p l e s m below meth c b dd cI cZ cR cJ A h0 q1 q2 q3 qs qh q4 qd qt qn cf xa wa ka g0 qD qT qN qO qS qC qP qG qB qF qX qo k ce sl 304 := by
  rcases ix_cases (sc (4 * k + 1)) 4 (by omega) (by omega) with ⟨x1, hx1, e1⟩ | ⟨h1, h2⟩
  · exact lw_open_v C F hL hk hce hsl K hx1 e1
  · exact lw_open_b1 C F hL hk hce hsl K h1 h2

theorem lw_make {p : Program} {l : Launch} {e : Env} {s : State} {m : MethodId} {below : List Frame} {meth : Method} {c : Code} {b : Nat} {dd : va_G} {cI cZ cR cJ : ClassId} {A : Nat → Prop} {L : Nat} {sc : Nat → Int32} {h0 : Nat} {q1 : Nat} {q2 : Nat} {q3 : Nat} {qs : Nat} {qh : Nat} {q4 : Nat} {qd : Nat} {qt : Nat} {qn : Nat} {cf : Nat → Option Nat} {xa : Nat → Nat} {wa : Nat → Nat} {ka : Nat → Nat} {g0 : Nat} {qD : Nat} {qT : Nat} {qN : Nat} {qO : Nat} {qS : Nat} {qC : Nat} {qP : Nat} {qG : Nat} {qB : Nat} {qF : Nat} {qX : Nat} {qo : Nat} {k ce sl : Nat} (C : lwC p l s m c b L sc dd cI cZ cR cJ A) (F : ∀ i, i < 4 → cf i = some (xa i)) (hL : L ≤ 2048) (hk : 4 * k + 4 ≤ L) (hce : ce + 1 ≤ room_1.cells) (hsl : sl + 6 ≤ room_1.slots) (K : LI p l e s m below meth c b dd cI cZ cR cJ A h0 q1 q2 q3 qs qh q4 qd qt qn cf xa wa ka g0 qD qT qN qO qS qC qP qG qB qF qX qo k (ce + 1) (sl + 6) 1363) : LI p l e s m below meth c b dd cI cZ cR cJ A h0 q1 q2 q3 qs qh q4 qd qt qn cf xa wa ka g0 qD qT qN qO qS qC qP qG qB qF qX qo k ce sl 360 := by
  rcases ix_cases (sc (4 * k + 1)) 4 (by omega) (by omega) with ⟨x1, hx1, e1⟩ | ⟨h1, h2⟩
  · exact lw_make_v C F hL hk hce hsl K hx1 e1
  · exact lw_make_b1 C F hL hk hce hsl K h1 h2

theorem lw_close {p : Program} {l : Launch} {e : Env} {s : State} {m : MethodId} {below : List Frame} {meth : Method} {c : Code} {b : Nat} {dd : va_G} {cI cZ cR cJ : ClassId} {A : Nat → Prop} {L : Nat} {sc : Nat → Int32} {h0 : Nat} {q1 : Nat} {q2 : Nat} {q3 : Nat} {qs : Nat} {qh : Nat} {q4 : Nat} {qd : Nat} {qt : Nat} {qn : Nat} {cf : Nat → Option Nat} {xa : Nat → Nat} {wa : Nat → Nat} {ka : Nat → Nat} {g0 : Nat} {qD : Nat} {qT : Nat} {qN : Nat} {qO : Nat} {qS : Nat} {qC : Nat} {qP : Nat} {qG : Nat} {qB : Nat} {qF : Nat} {qX : Nat} {qo : Nat} {k ce sl : Nat} (C : lwC p l s m c b L sc dd cI cZ cR cJ A) (F : ∀ i, i < 4 → cf i = some (xa i)) (hL : L ≤ 2048) (hk : 4 * k + 4 ≤ L) (hce : ce + 1 ≤ room_1.cells) (hsl : sl + 6 ≤ room_1.slots) (K : LI p l e s m below meth c b dd cI cZ cR cJ A h0 q1 q2 q3 qs qh q4 qd qt qn cf xa wa ka g0 qD qT qN qO qS qC qP qG qB qF qX qo k (ce + 1) (sl + 6) 1363) : LI p l e s m below meth c b dd cI cZ cR cJ A h0 q1 q2 q3 qs qh q4 qd qt qn cf xa wa ka g0 qD qT qN qO qS qC qP qG qB qF qX qo k ce sl 416 := by
  rcases ix_cases (sc (4 * k + 1)) 4 (by omega) (by omega) with ⟨x1, hx1, e1⟩ | ⟨h1, h2⟩
  · exact lw_close_v C F hL hk hce hsl K hx1 e1
  · exact lw_close_b1 C F hL hk hce hsl K h1 h2

theorem lw_erase {p : Program} {l : Launch} {e : Env} {s : State} {m : MethodId} {below : List Frame} {meth : Method} {c : Code} {b : Nat} {dd : va_G} {cI cZ cR cJ : ClassId} {A : Nat → Prop} {L : Nat} {sc : Nat → Int32} {h0 : Nat} {q1 : Nat} {q2 : Nat} {q3 : Nat} {qs : Nat} {qh : Nat} {q4 : Nat} {qd : Nat} {qt : Nat} {qn : Nat} {cf : Nat → Option Nat} {xa : Nat → Nat} {wa : Nat → Nat} {ka : Nat → Nat} {g0 : Nat} {qD : Nat} {qT : Nat} {qN : Nat} {qO : Nat} {qS : Nat} {qC : Nat} {qP : Nat} {qG : Nat} {qB : Nat} {qF : Nat} {qX : Nat} {qo : Nat} {k ce sl : Nat} (C : lwC p l s m c b L sc dd cI cZ cR cJ A) (F : ∀ i, i < 4 → cf i = some (xa i)) (hL : L ≤ 2048) (hk : 4 * k + 4 ≤ L) (hce : ce + 1 ≤ room_1.cells) (hsl : sl + 6 ≤ room_1.slots) (K : LI p l e s m below meth c b dd cI cZ cR cJ A h0 q1 q2 q3 qs qh q4 qd qt qn cf xa wa ka g0 qD qT qN qO qS qC qP qG qB qF qX qo k (ce + 1) (sl + 6) 1363) : LI p l e s m below meth c b dd cI cZ cR cJ A h0 q1 q2 q3 qs qh q4 qd qt qn cf xa wa ka g0 qD qT qN qO qS qC qP qG qB qF qX qo k ce sl 472 := by
  rcases ix_cases (sc (4 * k + 1)) 4 (by omega) (by omega) with ⟨x1, hx1, e1⟩ | ⟨h1, h2⟩
  · exact lw_erase_v C F hL hk hce hsl K hx1 e1
  · exact lw_erase_b1 C F hL hk hce hsl K h1 h2

theorem lw_rename {p : Program} {l : Launch} {e : Env} {s : State} {m : MethodId} {below : List Frame} {meth : Method} {c : Code} {b : Nat} {dd : va_G} {cI cZ cR cJ : ClassId} {A : Nat → Prop} {L : Nat} {sc : Nat → Int32} {h0 : Nat} {q1 : Nat} {q2 : Nat} {q3 : Nat} {qs : Nat} {qh : Nat} {q4 : Nat} {qd : Nat} {qt : Nat} {qn : Nat} {cf : Nat → Option Nat} {xa : Nat → Nat} {wa : Nat → Nat} {ka : Nat → Nat} {g0 : Nat} {qD : Nat} {qT : Nat} {qN : Nat} {qO : Nat} {qS : Nat} {qC : Nat} {qP : Nat} {qG : Nat} {qB : Nat} {qF : Nat} {qX : Nat} {qo : Nat} {k ce sl : Nat} (C : lwC p l s m c b L sc dd cI cZ cR cJ A) (F : ∀ i, i < 4 → cf i = some (xa i)) (hL : L ≤ 2048) (hk : 4 * k + 4 ≤ L) (hce : ce + 1 ≤ room_1.cells) (hsl : sl + 6 ≤ room_1.slots) (K : LI p l e s m below meth c b dd cI cZ cR cJ A h0 q1 q2 q3 qs qh q4 qd qt qn cf xa wa ka g0 qD qT qN qO qS qC qP qG qB qF qX qo k (ce + 1) (sl + 6) 1363) : LI p l e s m below meth c b dd cI cZ cR cJ A h0 q1 q2 q3 qs qh q4 qd qt qn cf xa wa ka g0 qD qT qN qO qS qC qP qG qB qF qX qo k ce sl 528 := by
  rcases ix_cases (sc (4 * k + 1)) 4 (by omega) (by omega) with ⟨x1, hx1, e1⟩ | ⟨h1, h2⟩
  · rcases ix_cases (sc (4 * k + 2)) 4 (by omega) (by omega) with ⟨x2, hx2, e2⟩ | ⟨g1, g2⟩
    · rcases Decidable.em (x2 = x1) with hq | hq
      · subst hq; exact lw_rename_s C F hL hk hce hsl K hx1 e1 e2
      · exact lw_rename_o C F hL hk hce hsl K hx1 hx2 hq e1 e2
    · exact lw_rename_b2 C F hL hk hce hsl K hx1 e1 g1 g2
  · exact lw_rename_b1 C F hL hk hce hsl K h1 h2

theorem lw_guard {p : Program} {l : Launch} {e : Env} {s : State} {m : MethodId} {below : List Frame} {meth : Method} {c : Code} {b : Nat} {dd : va_G} {cI cZ cR cJ : ClassId} {A : Nat → Prop} {L : Nat} {sc : Nat → Int32} {h0 : Nat} {q1 : Nat} {q2 : Nat} {q3 : Nat} {qs : Nat} {qh : Nat} {q4 : Nat} {qd : Nat} {qt : Nat} {qn : Nat} {cf : Nat → Option Nat} {xa : Nat → Nat} {wa : Nat → Nat} {ka : Nat → Nat} {g0 : Nat} {qD : Nat} {qT : Nat} {qN : Nat} {qO : Nat} {qS : Nat} {qC : Nat} {qP : Nat} {qG : Nat} {qB : Nat} {qF : Nat} {qX : Nat} {qo : Nat} {k ce sl : Nat} (C : lwC p l s m c b L sc dd cI cZ cR cJ A) (F : ∀ i, i < 4 → cf i = some (xa i)) (hL : L ≤ 2048) (hk : 4 * k + 4 ≤ L) (hce : ce + 1 ≤ room_1.cells) (hsl : sl + 6 ≤ room_1.slots) (K : LI p l e s m below meth c b dd cI cZ cR cJ A h0 q1 q2 q3 qs qh q4 qd qt qn cf xa wa ka g0 qD qT qN qO qS qC qP qG qB qF qX qo k (ce + 1) (sl + 6) 1363) : LI p l e s m below meth c b dd cI cZ cR cJ A h0 q1 q2 q3 qs qh q4 qd qt qn cf xa wa ka g0 qD qT qN qO qS qC qP qG qB qF qX qo k ce sl 596 := by
  rcases Decidable.em (sc (4 * k + 2) = 0) with hg | hg
  · rcases ix_cases (sc (4 * k + 1)) 4 (by omega) (by omega) with ⟨x1, hx1, e1⟩ | ⟨h1, h2⟩
    · exact lw_guard_vf C F hL hk hce hsl K hx1 e1 hg
    · exact lw_guard_b1f C F hL hk hce hsl K h1 h2 hg
  · rcases ix_cases (sc (4 * k + 1)) 4 (by omega) (by omega) with ⟨x1, hx1, e1⟩ | ⟨h1, h2⟩
    · exact lw_guard_vt C F hL hk hce hsl K hx1 e1 hg
    · exact lw_guard_b1t C F hL hk hce hsl K h1 h2 hg

theorem lw_search {p : Program} {l : Launch} {e : Env} {s : State} {m : MethodId} {below : List Frame} {meth : Method} {c : Code} {b : Nat} {dd : va_G} {cI cZ cR cJ : ClassId} {A : Nat → Prop} {L : Nat} {sc : Nat → Int32} {h0 : Nat} {q1 : Nat} {q2 : Nat} {q3 : Nat} {qs : Nat} {qh : Nat} {q4 : Nat} {qd : Nat} {qt : Nat} {qn : Nat} {cf : Nat → Option Nat} {xa : Nat → Nat} {wa : Nat → Nat} {ka : Nat → Nat} {g0 : Nat} {qD : Nat} {qT : Nat} {qN : Nat} {qO : Nat} {qS : Nat} {qC : Nat} {qP : Nat} {qG : Nat} {qB : Nat} {qF : Nat} {qX : Nat} {qo : Nat} {k ce sl : Nat} (C : lwC p l s m c b L sc dd cI cZ cR cJ A) (F : ∀ i, i < 4 → cf i = some (xa i)) (hL : L ≤ 2048) (hk : 4 * k + 4 ≤ L) (hce : ce + 1 ≤ room_1.cells) (hsl : sl + 6 ≤ room_1.slots) (K : LI p l e s m below meth c b dd cI cZ cR cJ A h0 q1 q2 q3 qs qh q4 qd qt qn cf xa wa ka g0 qD qT qN qO qS qC qP qG qB qF qX qo k (ce + 1) (sl + 6) 1363) : LI p l e s m below meth c b dd cI cZ cR cJ A h0 q1 q2 q3 qs qh q4 qd qt qn cf xa wa ka g0 qD qT qN qO qS qC qP qG qB qF qX qo k ce sl 680 := by
  rcases ix_cases (sc (4 * k + 1)) 4 (by omega) (by omega) with ⟨x1, hx1, e1⟩ | ⟨h1, h2⟩
  · rcases ix_cases (sc (4 * k + 2)) 32 (by omega) (by omega) with ⟨x2, hx2, e2⟩ | ⟨g1, g2⟩
    · exact lw_search_v C F hL hk hce hsl K hx1 e1 (by omega) e2
    · exact lw_search_b2 C F hL hk hce hsl K hx1 e1 g2 g2
  · exact lw_search_b1 C F hL hk hce hsl K h1 h2

theorem lw_read {p : Program} {l : Launch} {e : Env} {s : State} {m : MethodId} {below : List Frame} {meth : Method} {c : Code} {b : Nat} {dd : va_G} {cI cZ cR cJ : ClassId} {A : Nat → Prop} {L : Nat} {sc : Nat → Int32} {h0 : Nat} {q1 : Nat} {q2 : Nat} {q3 : Nat} {qs : Nat} {qh : Nat} {q4 : Nat} {qd : Nat} {qt : Nat} {qn : Nat} {cf : Nat → Option Nat} {xa : Nat → Nat} {wa : Nat → Nat} {ka : Nat → Nat} {g0 : Nat} {qD : Nat} {qT : Nat} {qN : Nat} {qO : Nat} {qS : Nat} {qC : Nat} {qP : Nat} {qG : Nat} {qB : Nat} {qF : Nat} {qX : Nat} {qo : Nat} {k ce sl : Nat} (C : lwC p l s m c b L sc dd cI cZ cR cJ A) (F : ∀ i, i < 4 → cf i = some (xa i)) (hL : L ≤ 2048) (hk : 4 * k + 4 ≤ L) (hce : ce + 1 ≤ room_1.cells) (hsl : sl + 6 ≤ room_1.slots) (K : LI p l e s m below meth c b dd cI cZ cR cJ A h0 q1 q2 q3 qs qh q4 qd qt qn cf xa wa ka g0 qD qT qN qO qS qC qP qG qB qF qX qo k (ce + 1) (sl + 6) 1363) : LI p l e s m below meth c b dd cI cZ cR cJ A h0 q1 q2 q3 qs qh q4 qd qt qn cf xa wa ka g0 qD qT qN qO qS qC qP qG qB qF qX qo k ce sl 748 := by
  rcases ix_cases (sc (4 * k + 1)) 4 (by omega) (by omega) with ⟨x1, hx1, e1⟩ | ⟨h1, h2⟩
  · exact lw_read_v C F hL hk hce hsl K hx1 e1
  · exact lw_read_b1 C F hL hk hce hsl K h1 h2

theorem lw_write {p : Program} {l : Launch} {e : Env} {s : State} {m : MethodId} {below : List Frame} {meth : Method} {c : Code} {b : Nat} {dd : va_G} {cI cZ cR cJ : ClassId} {A : Nat → Prop} {L : Nat} {sc : Nat → Int32} {h0 : Nat} {q1 : Nat} {q2 : Nat} {q3 : Nat} {qs : Nat} {qh : Nat} {q4 : Nat} {qd : Nat} {qt : Nat} {qn : Nat} {cf : Nat → Option Nat} {xa : Nat → Nat} {wa : Nat → Nat} {ka : Nat → Nat} {g0 : Nat} {qD : Nat} {qT : Nat} {qN : Nat} {qO : Nat} {qS : Nat} {qC : Nat} {qP : Nat} {qG : Nat} {qB : Nat} {qF : Nat} {qX : Nat} {qo : Nat} {k ce sl : Nat} (C : lwC p l s m c b L sc dd cI cZ cR cJ A) (F : ∀ i, i < 4 → cf i = some (xa i)) (hL : L ≤ 2048) (hk : 4 * k + 4 ≤ L) (hce : ce + 1 ≤ room_1.cells) (hsl : sl + 6 ≤ room_1.slots) (K : LI p l e s m below meth c b dd cI cZ cR cJ A h0 q1 q2 q3 qs qh q4 qd qt qn cf xa wa ka g0 qD qT qN qO qS qC qP qG qB qF qX qo k (ce + 1) (sl + 6) 1363) : LI p l e s m below meth c b dd cI cZ cR cJ A h0 q1 q2 q3 qs qh q4 qd qt qn cf xa wa ka g0 qD qT qN qO qS qC qP qG qB qF qX qo k ce sl 804 := by
  rcases ix_cases (sc (4 * k + 1)) 4 (by omega) (by omega) with ⟨x1, hx1, e1⟩ | ⟨h1, h2⟩
  · exact lw_write_v C F hL hk hce hsl K hx1 e1
  · exact lw_write_b1 C F hL hk hce hsl K h1 h2

theorem lw_at {p : Program} {l : Launch} {e : Env} {s : State} {m : MethodId} {below : List Frame} {meth : Method} {c : Code} {b : Nat} {dd : va_G} {cI cZ cR cJ : ClassId} {A : Nat → Prop} {L : Nat} {sc : Nat → Int32} {h0 : Nat} {q1 : Nat} {q2 : Nat} {q3 : Nat} {qs : Nat} {qh : Nat} {q4 : Nat} {qd : Nat} {qt : Nat} {qn : Nat} {cf : Nat → Option Nat} {xa : Nat → Nat} {wa : Nat → Nat} {ka : Nat → Nat} {g0 : Nat} {qD : Nat} {qT : Nat} {qN : Nat} {qO : Nat} {qS : Nat} {qC : Nat} {qP : Nat} {qG : Nat} {qB : Nat} {qF : Nat} {qX : Nat} {qo : Nat} {k ce sl : Nat} (C : lwC p l s m c b L sc dd cI cZ cR cJ A) (F : ∀ i, i < 4 → cf i = some (xa i)) (hL : L ≤ 2048) (hk : 4 * k + 4 ≤ L) (hce : ce + 1 ≤ room_1.cells) (hsl : sl + 6 ≤ room_1.slots) (K : LI p l e s m below meth c b dd cI cZ cR cJ A h0 q1 q2 q3 qs qh q4 qd qt qn cf xa wa ka g0 qD qT qN qO qS qC qP qG qB qF qX qo k (ce + 1) (sl + 6) 1363) : LI p l e s m below meth c b dd cI cZ cR cJ A h0 q1 q2 q3 qs qh q4 qd qt qn cf xa wa ka g0 qD qT qN qO qS qC qP qG qB qF qX qo k ce sl 860 := by
  rcases Decidable.em (sc (4 * k + 3) = 0) with hg | hg
  · rcases ix_cases (sc (4 * k + 1)) 4 (by omega) (by omega) with ⟨x1, hx1, e1⟩ | ⟨h1, h2⟩
    · rcases ix_cases (sc (4 * k + 2)) 100001 (by omega) (by omega) with ⟨x2, hx2, e2⟩ | ⟨g1, g2⟩
      · exact lw_at_vf C F hL hk hce hsl K hx1 e1 (by omega) e2 hg
      · exact lw_at_b2f C F hL hk hce hsl K hx1 e1 g2 g2 hg
    · exact lw_at_b1f C F hL hk hce hsl K h1 h2 hg
  · rcases ix_cases (sc (4 * k + 1)) 4 (by omega) (by omega) with ⟨x1, hx1, e1⟩ | ⟨h1, h2⟩
    · rcases ix_cases (sc (4 * k + 2)) 100001 (by omega) (by omega) with ⟨x2, hx2, e2⟩ | ⟨g1, g2⟩
      · exact lw_at_vt C F hL hk hce hsl K hx1 e1 (by omega) e2 hg
      · exact lw_at_b2t C F hL hk hce hsl K hx1 e1 g2 g2 hg
    · exact lw_at_b1t C F hL hk hce hsl K h1 h2 hg

theorem lw_size {p : Program} {l : Launch} {e : Env} {s : State} {m : MethodId} {below : List Frame} {meth : Method} {c : Code} {b : Nat} {dd : va_G} {cI cZ cR cJ : ClassId} {A : Nat → Prop} {L : Nat} {sc : Nat → Int32} {h0 : Nat} {q1 : Nat} {q2 : Nat} {q3 : Nat} {qs : Nat} {qh : Nat} {q4 : Nat} {qd : Nat} {qt : Nat} {qn : Nat} {cf : Nat → Option Nat} {xa : Nat → Nat} {wa : Nat → Nat} {ka : Nat → Nat} {g0 : Nat} {qD : Nat} {qT : Nat} {qN : Nat} {qO : Nat} {qS : Nat} {qC : Nat} {qP : Nat} {qG : Nat} {qB : Nat} {qF : Nat} {qX : Nat} {qo : Nat} {k ce sl : Nat} (C : lwC p l s m c b L sc dd cI cZ cR cJ A) (F : ∀ i, i < 4 → cf i = some (xa i)) (hL : L ≤ 2048) (hk : 4 * k + 4 ≤ L) (hce : ce + 1 ≤ room_1.cells) (hsl : sl + 6 ≤ room_1.slots) (K : LI p l e s m below meth c b dd cI cZ cR cJ A h0 q1 q2 q3 qs qh q4 qd qt qn cf xa wa ka g0 qD qT qN qO qS qC qP qG qB qF qX qo k (ce + 1) (sl + 6) 1363) : LI p l e s m below meth c b dd cI cZ cR cJ A h0 q1 q2 q3 qs qh q4 qd qt qn cf xa wa ka g0 qD qT qN qO qS qC qP qG qB qF qX qo k ce sl 956 := by
  rcases ix_cases (sc (4 * k + 1)) 4 (by omega) (by omega) with ⟨x1, hx1, e1⟩ | ⟨h1, h2⟩
  · exact lw_size_v C F hL hk hce hsl K hx1 e1
  · exact lw_size_b1 C F hL hk hce hsl K h1 h2

theorem lw_has {p : Program} {l : Launch} {e : Env} {s : State} {m : MethodId} {below : List Frame} {meth : Method} {c : Code} {b : Nat} {dd : va_G} {cI cZ cR cJ : ClassId} {A : Nat → Prop} {L : Nat} {sc : Nat → Int32} {h0 : Nat} {q1 : Nat} {q2 : Nat} {q3 : Nat} {qs : Nat} {qh : Nat} {q4 : Nat} {qd : Nat} {qt : Nat} {qn : Nat} {cf : Nat → Option Nat} {xa : Nat → Nat} {wa : Nat → Nat} {ka : Nat → Nat} {g0 : Nat} {qD : Nat} {qT : Nat} {qN : Nat} {qO : Nat} {qS : Nat} {qC : Nat} {qP : Nat} {qG : Nat} {qB : Nat} {qF : Nat} {qX : Nat} {qo : Nat} {k ce sl : Nat} (C : lwC p l s m c b L sc dd cI cZ cR cJ A) (F : ∀ i, i < 4 → cf i = some (xa i)) (hL : L ≤ 2048) (hk : 4 * k + 4 ≤ L) (hce : ce + 1 ≤ room_1.cells) (hsl : sl + 6 ≤ room_1.slots) (K : LI p l e s m below meth c b dd cI cZ cR cJ A h0 q1 q2 q3 qs qh q4 qd qt qn cf xa wa ka g0 qD qT qN qO qS qC qP qG qB qF qX qo k (ce + 1) (sl + 6) 1363) : LI p l e s m below meth c b dd cI cZ cR cJ A h0 q1 q2 q3 qs qh q4 qd qt qn cf xa wa ka g0 qD qT qN qO qS qC qP qG qB qF qX qo k ce sl 1012 := by
  rcases ix_cases (sc (4 * k + 1)) 4 (by omega) (by omega) with ⟨x1, hx1, e1⟩ | ⟨h1, h2⟩
  · rcases ix_cases (sc (4 * k + 2)) 11 (by omega) (by omega) with ⟨x2, hx2, e2⟩ | ⟨g1, g2⟩
    · exact lw_has_v C F hL hk hce hsl K hx1 e1 (by omega) e2
    · exact lw_has_b2 C F hL hk hce hsl K hx1 e1 g2 g2
  · exact lw_has_b1 C F hL hk hce hsl K h1 h2

theorem lw_set {p : Program} {l : Launch} {e : Env} {s : State} {m : MethodId} {below : List Frame} {meth : Method} {c : Code} {b : Nat} {dd : va_G} {cI cZ cR cJ : ClassId} {A : Nat → Prop} {L : Nat} {sc : Nat → Int32} {h0 : Nat} {q1 : Nat} {q2 : Nat} {q3 : Nat} {qs : Nat} {qh : Nat} {q4 : Nat} {qd : Nat} {qt : Nat} {qn : Nat} {cf : Nat → Option Nat} {xa : Nat → Nat} {wa : Nat → Nat} {ka : Nat → Nat} {g0 : Nat} {qD : Nat} {qT : Nat} {qN : Nat} {qO : Nat} {qS : Nat} {qC : Nat} {qP : Nat} {qG : Nat} {qB : Nat} {qF : Nat} {qX : Nat} {qo : Nat} {k ce sl : Nat} (C : lwC p l s m c b L sc dd cI cZ cR cJ A) (F : ∀ i, i < 4 → cf i = some (xa i)) (hL : L ≤ 2048) (hk : 4 * k + 4 ≤ L) (hce : ce + 1 ≤ room_1.cells) (hsl : sl + 6 ≤ room_1.slots) (K : LI p l e s m below meth c b dd cI cZ cR cJ A h0 q1 q2 q3 qs qh q4 qd qt qn cf xa wa ka g0 qD qT qN qO qS qC qP qG qB qF qX qo k (ce + 1) (sl + 6) 1363) : LI p l e s m below meth c b dd cI cZ cR cJ A h0 q1 q2 q3 qs qh q4 qd qt qn cf xa wa ka g0 qD qT qN qO qS qC qP qG qB qF qX qo k ce sl 1080 := by
  rcases ix_cases (sc (4 * k + 1)) 16 (by omega) (by omega) with ⟨x1, hx1, e1⟩ | ⟨h1, h2⟩
  · rcases ix_cases (sc (4 * k + 2)) 256 (by omega) (by omega) with ⟨x2, hx2, e2⟩ | ⟨g1, g2⟩
    · exact lw_set_v C F hL hk hce hsl K hx1 (by omega) e1 e2
    · exact lw_set_b2 C F hL hk hce hsl K hx1 e1 g2 g2
  · exact lw_set_b1 C F hL hk hce hsl K h1 h2

theorem lw_buffer {p : Program} {l : Launch} {e : Env} {s : State} {m : MethodId} {below : List Frame} {meth : Method} {c : Code} {b : Nat} {dd : va_G} {cI cZ cR cJ : ClassId} {A : Nat → Prop} {L : Nat} {sc : Nat → Int32} {h0 : Nat} {q1 : Nat} {q2 : Nat} {q3 : Nat} {qs : Nat} {qh : Nat} {q4 : Nat} {qd : Nat} {qt : Nat} {qn : Nat} {cf : Nat → Option Nat} {xa : Nat → Nat} {wa : Nat → Nat} {ka : Nat → Nat} {g0 : Nat} {qD : Nat} {qT : Nat} {qN : Nat} {qO : Nat} {qS : Nat} {qC : Nat} {qP : Nat} {qG : Nat} {qB : Nat} {qF : Nat} {qX : Nat} {qo : Nat} {k ce sl : Nat} (C : lwC p l s m c b L sc dd cI cZ cR cJ A) (F : ∀ i, i < 4 → cf i = some (xa i)) (hL : L ≤ 2048) (hk : 4 * k + 4 ≤ L) (hce : ce + 1 ≤ room_1.cells) (hsl : sl + 6 ≤ room_1.slots) (K : LI p l e s m below meth c b dd cI cZ cR cJ A h0 q1 q2 q3 qs qh q4 qd qt qn cf xa wa ka g0 qD qT qN qO qS qC qP qG qB qF qX qo k (ce + 1) (sl + 6) 1363) : LI p l e s m below meth c b dd cI cZ cR cJ A h0 q1 q2 q3 qs qh q4 qd qt qn cf xa wa ka g0 qD qT qN qO qS qC qP qG qB qF qX qo k ce sl 1148 := by
  rcases ix_cases (sc (4 * k + 1)) 2 (by omega) (by omega) with ⟨x1, hx1, e1⟩ | ⟨h1, h2⟩
  · exact lw_buffer_v C F hL hk hce hsl K hx1 e1
  · exact lw_buffer_b1 C F hL hk hce hsl K h1 h2

theorem lw_disk {p : Program} {l : Launch} {e : Env} {s : State} {m : MethodId} {below : List Frame} {meth : Method} {c : Code} {b : Nat} {dd : va_G} {cI cZ cR cJ : ClassId} {A : Nat → Prop} {L : Nat} {sc : Nat → Int32} {h0 : Nat} {q1 : Nat} {q2 : Nat} {q3 : Nat} {qs : Nat} {qh : Nat} {q4 : Nat} {qd : Nat} {qt : Nat} {qn : Nat} {cf : Nat → Option Nat} {xa : Nat → Nat} {wa : Nat → Nat} {ka : Nat → Nat} {g0 : Nat} {qD : Nat} {qT : Nat} {qN : Nat} {qO : Nat} {qS : Nat} {qC : Nat} {qP : Nat} {qG : Nat} {qB : Nat} {qF : Nat} {qX : Nat} {qo : Nat} {k ce sl : Nat} (C : lwC p l s m c b L sc dd cI cZ cR cJ A) (F : ∀ i, i < 4 → cf i = some (xa i)) (hL : L ≤ 2048) (hk : 4 * k + 4 ≤ L) (hce : ce + 1 ≤ room_1.cells) (hsl : sl + 6 ≤ room_1.slots) (K : LI p l e s m below meth c b dd cI cZ cR cJ A h0 q1 q2 q3 qs qh q4 qd qt qn cf xa wa ka g0 qD qT qN qO qS qC qP qG qB qF qX qo k (ce + 1) (sl + 6) 1363) : LI p l e s m below meth c b dd cI cZ cR cJ A h0 q1 q2 q3 qs qh q4 qd qt qn cf xa wa ka g0 qD qT qN qO qS qC qP qG qB qF qX qo k ce sl 1203 := by
  rcases ix_cases (sc (4 * k + 1)) 4096 (by omega) (by omega) with ⟨x1, hx1, e1⟩ | ⟨h1, h2⟩
  · exact lw_disk_v C F hL hk hce hsl K hx1 e1
  · exact lw_disk_b1 C F hL hk hce hsl K h1 h2

theorem lw_spoil {p : Program} {l : Launch} {e : Env} {s : State} {m : MethodId} {below : List Frame} {meth : Method} {c : Code} {b : Nat} {dd : va_G} {cI cZ cR cJ : ClassId} {A : Nat → Prop} {L : Nat} {sc : Nat → Int32} {h0 : Nat} {q1 : Nat} {q2 : Nat} {q3 : Nat} {qs : Nat} {qh : Nat} {q4 : Nat} {qd : Nat} {qt : Nat} {qn : Nat} {cf : Nat → Option Nat} {xa : Nat → Nat} {wa : Nat → Nat} {ka : Nat → Nat} {g0 : Nat} {qD : Nat} {qT : Nat} {qN : Nat} {qO : Nat} {qS : Nat} {qC : Nat} {qP : Nat} {qG : Nat} {qB : Nat} {qF : Nat} {qX : Nat} {qo : Nat} {k ce sl : Nat} (C : lwC p l s m c b L sc dd cI cZ cR cJ A) (F : ∀ i, i < 4 → cf i = some (xa i)) (hL : L ≤ 2048) (hk : 4 * k + 4 ≤ L) (hce : ce + 1 ≤ room_1.cells) (hsl : sl + 6 ≤ room_1.slots) (K : LI p l e s m below meth c b dd cI cZ cR cJ A h0 q1 q2 q3 qs qh q4 qd qt qn cf xa wa ka g0 qD qT qN qO qS qC qP qG qB qF qX qo k (ce + 1) (sl + 6) 1363) : LI p l e s m below meth c b dd cI cZ cR cJ A h0 q1 q2 q3 qs qh q4 qd qt qn cf xa wa ka g0 qD qT qN qO qS qC qP qG qB qF qX qo k ce sl 1259 := by
  rcases ix_cases (sc (4 * k + 1)) 4096 (by omega) (by omega) with ⟨x1, hx1, e1⟩ | ⟨h1, h2⟩
  · rcases ix_cases (sc (4 * k + 2)) 256 (by omega) (by omega) with ⟨x2, hx2, e2⟩ | ⟨g1, g2⟩
    · exact lw_spoil_v C F hL hk hce hsl K hx1 (by omega) e1 e2
    · exact lw_spoil_b2 C F hL hk hce hsl K hx1 e1 g2 g2
  · exact lw_spoil_b1 C F hL hk hce hsl K h1 h2

theorem lw_told {p : Program} {l : Launch} {e : Env} {s : State} {m : MethodId} {below : List Frame} {meth : Method} {c : Code} {b : Nat} {dd : va_G} {cI cZ cR cJ : ClassId} {A : Nat → Prop} {L : Nat} {sc : Nat → Int32} {h0 : Nat} {q1 : Nat} {q2 : Nat} {q3 : Nat} {qs : Nat} {qh : Nat} {q4 : Nat} {qd : Nat} {qt : Nat} {qn : Nat} {cf : Nat → Option Nat} {xa : Nat → Nat} {wa : Nat → Nat} {ka : Nat → Nat} {g0 : Nat} {qD : Nat} {qT : Nat} {qN : Nat} {qO : Nat} {qS : Nat} {qC : Nat} {qP : Nat} {qG : Nat} {qB : Nat} {qF : Nat} {qX : Nat} {qo : Nat} {k ce sl : Nat} (C : lwC p l s m c b L sc dd cI cZ cR cJ A) (F : ∀ i, i < 4 → cf i = some (xa i)) (hL : L ≤ 2048) (hk : 4 * k + 4 ≤ L) (hce : ce + 1 ≤ room_1.cells) (hsl : sl + 6 ≤ room_1.slots) (K : LI p l e s m below meth c b dd cI cZ cR cJ A h0 q1 q2 q3 qs qh q4 qd qt qn cf xa wa ka g0 qD qT qN qO qS qC qP qG qB qF qX qo k (ce + 1) (sl + 6) 1363) : LI p l e s m below meth c b dd cI cZ cR cJ A h0 q1 q2 q3 qs qh q4 qd qt qn cf xa wa ka g0 qD qT qN qO qS qC qP qG qB qF qX qo k ce sl 1307 := by
  rcases ix_cases (sc (4 * k + 1)) 4 (by omega) (by omega) with ⟨x1, hx1, e1⟩ | ⟨h1, h2⟩
  · rcases (show x1 = 0 ∨ x1 = 1 ∨ x1 = 2 ∨ x1 = 3 by omega) with rfl | rfl | rfl | rfl
    · exact lw_told_v0 C F hL hk hce hsl K e1
    · exact lw_told_v1 C F hL hk hce hsl K e1
    · exact lw_told_v2 C F hL hk hce hsl K e1
    · exact lw_told_v3 C F hL hk hce hsl K e1
  · exact lw_told_b1 C F hL hk hce hsl K h2 h2

theorem lw_room : ∀ {a b : Nat}, a ≤ 601024 → b ≤ 7293034 → a ≤ room_1.cells ∧ b ≤ room_1.slots := fun h1 h2 => ⟨h1, h2⟩
theorem lw_last {k L : Nat} (hL : L ≤ 2048) (hk : 4 * k ≤ L) (h : ¬ Int32.ofNat L - nI 4 < nI (4 * k)) : 4 * k + 4 ≤ L := by
  have h1 : ¬ (Int32.ofNat L - nI 4).toInt < (nI (4 * k)).toInt := fun z => h (Int32.lt_iff_toInt_lt.mpr z)
  have h2 : (Int32.ofNat L - nI 4).toInt = (L : Int) - (4 : Nat) := pk_sub_toInt (a := L) (b := 4) (by omega) (by omega)
  rw [h2, nI_toInt (by omega)] at h1
  omega
theorem lw_and (x : Int32) : ∃ j, j < 32 ∧ x &&& nI 31 = nI j := ⟨x.toBitVec.toNat % 32, Nat.mod_lt _ (by omega), by rw [pk_and x (m := nI 31) 5 (by decide)]⟩
theorem lw_and2 {p : Program} {l : Launch} {e : Env} {R : Room} {s : State} {m : MethodId} {args : Array Value} {below : List Frame} {meth : Method} {c : Code} {H : Heap} {locs : List Loc} {cells slots : Nat} {Q : State → Prop} {ls : Array Slot} {rest : List Value} {pc : Nat} {cc : ByteArray} {x : Int32} (hx : p.tables.exec = Jvm.exec) (hb : c.code = cc) (hdg : decode cc pc = .ok (.iand, 1)) (kk : ∀ j, j < 32 → W p l e R s m args below meth c H locs cells slots Q (F0 m (pc + 1) ls (.int (nI j) :: rest))) : W p l e R s m args below meth c H locs cells slots Q (F0 m pc ls (.int (nI 31) :: .int x :: rest)) := by
  refine lv_iand hx hb hdg ?_
  obtain ⟨j, hj, ej⟩ := lw_and x
  rw [ej]; exact kk j hj

set_option maxHeartbeats 8000000 in
set_option maxRecDepth 100000 in
theorem lw_loop {p : Program} {l : Launch} {e : Env} {s : State} {m : MethodId} {below : List Frame} {meth : Method} {c : Code} {b : Nat} {dd : va_G} {cI cZ cR cJ : ClassId} {A : Nat → Prop} {L : Nat} {sc : Nat → Int32} {h0 : Nat} {q1 : Nat} {q2 : Nat} {q3 : Nat} {qs : Nat} {qh : Nat} {q4 : Nat} {qd : Nat} {qt : Nat} {qn : Nat} {cf : Nat → Option Nat} {xa : Nat → Nat} {wa : Nat → Nat} {ka : Nat → Nat} {g0 : Nat} {qD : Nat} {qT : Nat} {qN : Nat} {qO : Nat} {qS : Nat} {qC : Nat} {qP : Nat} {qG : Nat} {qB : Nat} {qF : Nat} {qX : Nat} {qo : Nat} (C : lwC p l s m c b L sc dd cI cZ cR cJ A) (F : ∀ i, i < 4 → cf i = some (xa i)) (hL : L ≤ 2048) (hr : meth.sig.returnType = ret) (hlocks : meth.locks = false) (hA2 : ∀ q : Nat, A q → s.heap.size ≤ q) : ∀ (n k ce sl : Nat), 4 * k ≤ L → L + 1 ≤ 4 * k + n → ce + n ≤ 601024 → sl + 6 * n ≤ 7293034 → LI p l e s m below meth c b dd cI cZ cR cJ A h0 q1 q2 q3 qs qh q4 qd qt qn cf xa wa ka g0 qD qT qN qO qS qC qP qG qB qF qX qo k ce sl 23 := by
  intro n
  induction n with
  | zero => intro k ce sl h1 h2; exact absurd h2 (by omega)
  | succ n ih =>
    intro k ce sl h1 h2 h3 h4
    have C0 := C
    obtain ⟨hx, hb, hml, hown, hts, hX, hbl, hbA, hA, hK, hZ, hlt⟩ := C
    intro th U le wl wd D T nms ops sts cts pls gds bls bf dr tl xz of ja jb jc jd Bd hp H locs hP hD hS ls hl
    refine lv_iload hx hb dL_law_23 (lv_at hl 4 rfl) ?_
    refine lv_aload_n hx hb dL_law_25 rfl (lv_at hl 0 rfl) ?_
    refine va_slen hx hb hX hbl hbA hS dL_law_26 ?_
    refine lv_iconst (v := nI 4) hx hb dL_law_27 (by decide) ?_
    refine lv_isub hx hb dL_law_28 ?_
    refine lv_icmp_gt (tgt := 1369) hx hb dL_law_29 (by decide) (fun c1 => ?_) (fun c1 => ?_)
    · refine lv_iconst (v := 1) hx hb dL_law_1369 (by decide) ?_
      refine va_forget (fun q hq => hA2 _ (hS.2.2 q hq)) ?_
      refine W.widen (k := 601024) (n := 7293034) (by omega) (by omega) ?_
      exact lw_ret hx hb hr hlocks dL_law_1370
    · have hk : 4 * k + 4 ≤ L := lw_last hL h1 c1
      obtain ⟨hce, hsl⟩ := lw_room (a := ce + 1) (b := sl + 6) (by omega) (by omega)
      have K : LI p l e s m below meth c b dd cI cZ cR cJ A h0 q1 q2 q3 qs qh q4 qd qt qn cf xa wa ka g0 qD qT qN qO qS qC qP qG qB qF qX qo k (ce + 1) (sl + 6) 1363 := by
        clear hP hD hS hl Bd hp c1
        intro th U le wl wd D T nms ops sts cts pls gds bls bf dr tl xz of ja jb jc jd Bd hp H locs hP hD hS ls hl
        refine lv_iinc (v := nI (4 * (k + 1))) (lv' := [(4, .int (nI (4 * (k + 1)))), (0, .ref b), (1, .ref h0), (2, .ref g0), (3, .ref qo)]) hx hb dL_law_1363 hl (k := 4) rfl (by rw [show Int32.ofInt 4 = nI 4 by decide]; exact nI_add (4 * k) 4) (by decide) rfl (fun ls hl => ?_)
        refine lv_goto (tgt := 23) hx hb dL_law_1366 (by decide) ?_
        exact ih (k + 1) (ce + 1) (sl + 6) (by omega) (by omega) (by omega) (by omega) th U le wl wd D T nms ops sts cts pls gds bls bf dr tl xz of ja jb jc jd Bd hp H locs hP hD hS ls (lv_sub hl [1, 2, 3, 4, 0] rfl)
      refine lv_aload_n hx hb dL_law_32 rfl (lv_at hl 0 rfl) ?_
      refine lv_iload hx hb dL_law_33 (lv_at hl 4 rfl) ?_
      refine nr_sld hx hb hX hbl hbA hS (by omega) (by omega) dL_law_35 ?_
      refine lv_bipush (v := nI 31) hx hb dL_law_36 (by decide) ?_
      refine lw_and2 hx hb dL_law_38 (fun j hj => ?_)
      rcases (show j = 0 ∨ j = 1 ∨ j = 2 ∨ j = 3 ∨ j = 4 ∨ j = 5 ∨ j = 6 ∨ j = 7 ∨ j = 8 ∨ j = 9 ∨ j = 10 ∨ j = 11 ∨ j = 12 ∨ j = 13 ∨ j = 14 ∨ j = 15 ∨ j = 16 ∨ j = 17 ∨ j = 18 ∨ j = 19 ∨ 20 ≤ j by omega) with rfl | rfl | rfl | rfl | rfl | rfl | rfl | rfl | rfl | rfl | rfl | rfl | rfl | rfl | rfl | rfl | rfl | rfl | rfl | rfl | hsw
      · refine lv_tableIn (x := nI 0) (off := 93) (tgt := 132) hx hb dL_law_39 (by decide) (by decide) (by decide) (by decide) ?_
        exact lw_login C0 F hL hk hce hsl K th U le wl wd D T nms ops sts cts pls gds bls bf dr tl xz of ja jb jc jd Bd hp H locs hP hD hS ls hl
      · refine lv_tableIn (x := nI 1) (off := 149) (tgt := 188) hx hb dL_law_39 (by decide) (by decide) (by decide) (by decide) ?_
        exact lw_power C0 F hL hk hce hsl K th U le wl wd D T nms ops sts cts pls gds bls bf dr tl xz of ja jb jc jd Bd hp H locs hP hD hS ls hl
      · refine lv_tableIn (x := nI 2) (off := 185) (tgt := 224) hx hb dL_law_39 (by decide) (by decide) (by decide) (by decide) ?_
        exact lw_name C0 F hL hk hce hsl K th U le wl wd D T nms ops sts cts pls gds bls bf dr tl xz of ja jb jc jd Bd hp H locs hP hD hS ls hl
      · refine lv_tableIn (x := nI 3) (off := 265) (tgt := 304) hx hb dL_law_39 (by decide) (by decide) (by decide) (by decide) ?_
        exact lw_open C0 F hL hk hce hsl K th U le wl wd D T nms ops sts cts pls gds bls bf dr tl xz of ja jb jc jd Bd hp H locs hP hD hS ls hl
      · refine lv_tableIn (x := nI 4) (off := 321) (tgt := 360) hx hb dL_law_39 (by decide) (by decide) (by decide) (by decide) ?_
        exact lw_make C0 F hL hk hce hsl K th U le wl wd D T nms ops sts cts pls gds bls bf dr tl xz of ja jb jc jd Bd hp H locs hP hD hS ls hl
      · refine lv_tableIn (x := nI 5) (off := 377) (tgt := 416) hx hb dL_law_39 (by decide) (by decide) (by decide) (by decide) ?_
        exact lw_close C0 F hL hk hce hsl K th U le wl wd D T nms ops sts cts pls gds bls bf dr tl xz of ja jb jc jd Bd hp H locs hP hD hS ls hl
      · refine lv_tableIn (x := nI 6) (off := 433) (tgt := 472) hx hb dL_law_39 (by decide) (by decide) (by decide) (by decide) ?_
        exact lw_erase C0 F hL hk hce hsl K th U le wl wd D T nms ops sts cts pls gds bls bf dr tl xz of ja jb jc jd Bd hp H locs hP hD hS ls hl
      · refine lv_tableIn (x := nI 7) (off := 489) (tgt := 528) hx hb dL_law_39 (by decide) (by decide) (by decide) (by decide) ?_
        exact lw_rename C0 F hL hk hce hsl K th U le wl wd D T nms ops sts cts pls gds bls bf dr tl xz of ja jb jc jd Bd hp H locs hP hD hS ls hl
      · refine lv_tableIn (x := nI 8) (off := 557) (tgt := 596) hx hb dL_law_39 (by decide) (by decide) (by decide) (by decide) ?_
        exact lw_guard C0 F hL hk hce hsl K th U le wl wd D T nms ops sts cts pls gds bls bf dr tl xz of ja jb jc jd Bd hp H locs hP hD hS ls hl
      · refine lv_tableIn (x := nI 9) (off := 641) (tgt := 680) hx hb dL_law_39 (by decide) (by decide) (by decide) (by decide) ?_
        exact lw_search C0 F hL hk hce hsl K th U le wl wd D T nms ops sts cts pls gds bls bf dr tl xz of ja jb jc jd Bd hp H locs hP hD hS ls hl
      · refine lv_tableIn (x := nI 10) (off := 709) (tgt := 748) hx hb dL_law_39 (by decide) (by decide) (by decide) (by decide) ?_
        exact lw_read C0 F hL hk hce hsl K th U le wl wd D T nms ops sts cts pls gds bls bf dr tl xz of ja jb jc jd Bd hp H locs hP hD hS ls hl
      · refine lv_tableIn (x := nI 11) (off := 765) (tgt := 804) hx hb dL_law_39 (by decide) (by decide) (by decide) (by decide) ?_
        exact lw_write C0 F hL hk hce hsl K th U le wl wd D T nms ops sts cts pls gds bls bf dr tl xz of ja jb jc jd Bd hp H locs hP hD hS ls hl
      · refine lv_tableIn (x := nI 12) (off := 821) (tgt := 860) hx hb dL_law_39 (by decide) (by decide) (by decide) (by decide) ?_
        exact lw_at C0 F hL hk hce hsl K th U le wl wd D T nms ops sts cts pls gds bls bf dr tl xz of ja jb jc jd Bd hp H locs hP hD hS ls hl
      · refine lv_tableIn (x := nI 13) (off := 917) (tgt := 956) hx hb dL_law_39 (by decide) (by decide) (by decide) (by decide) ?_
        exact lw_size C0 F hL hk hce hsl K th U le wl wd D T nms ops sts cts pls gds bls bf dr tl xz of ja jb jc jd Bd hp H locs hP hD hS ls hl
      · refine lv_tableIn (x := nI 14) (off := 973) (tgt := 1012) hx hb dL_law_39 (by decide) (by decide) (by decide) (by decide) ?_
        exact lw_has C0 F hL hk hce hsl K th U le wl wd D T nms ops sts cts pls gds bls bf dr tl xz of ja jb jc jd Bd hp H locs hP hD hS ls hl
      · refine lv_tableIn (x := nI 15) (off := 1041) (tgt := 1080) hx hb dL_law_39 (by decide) (by decide) (by decide) (by decide) ?_
        exact lw_set C0 F hL hk hce hsl K th U le wl wd D T nms ops sts cts pls gds bls bf dr tl xz of ja jb jc jd Bd hp H locs hP hD hS ls hl
      · refine lv_tableIn (x := nI 16) (off := 1109) (tgt := 1148) hx hb dL_law_39 (by decide) (by decide) (by decide) (by decide) ?_
        exact lw_buffer C0 F hL hk hce hsl K th U le wl wd D T nms ops sts cts pls gds bls bf dr tl xz of ja jb jc jd Bd hp H locs hP hD hS ls hl
      · refine lv_tableIn (x := nI 17) (off := 1164) (tgt := 1203) hx hb dL_law_39 (by decide) (by decide) (by decide) (by decide) ?_
        exact lw_disk C0 F hL hk hce hsl K th U le wl wd D T nms ops sts cts pls gds bls bf dr tl xz of ja jb jc jd Bd hp H locs hP hD hS ls hl
      · refine lv_tableIn (x := nI 18) (off := 1220) (tgt := 1259) hx hb dL_law_39 (by decide) (by decide) (by decide) (by decide) ?_
        exact lw_spoil C0 F hL hk hce hsl K th U le wl wd D T nms ops sts cts pls gds bls bf dr tl xz of ja jb jc jd Bd hp H locs hP hD hS ls hl
      · refine lv_tableIn (x := nI 19) (off := 1268) (tgt := 1307) hx hb dL_law_39 (by decide) (by decide) (by decide) (by decide) ?_
        exact lw_told C0 F hL hk hce hsl K th U le wl wd D T nms ops sts cts pls gds bls bf dr tl xz of ja jb jc jd Bd hp H locs hP hD hS ls hl
      · refine lv_tableOut (tgt := 1363) hx hb dL_law_39 (Or.inr (by rw [nI_toInt (by omega)]; omega)) (by decide) ?_
        refine W.widen (k := ce + 1) (n := sl + 6) (by omega) (by omega) ?_
        exact K th U le wl wd D T nms ops sts cts pls gds bls bf dr tl xz of ja jb jc jd Bd hp H locs hP hD hS ls hl
