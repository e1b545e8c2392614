/-! power, records, stretches: what a call does, as functions -/
def okW (le : Bool) (wl : Nat) : Bool := le || decide (wl ≠ 0)
def wlW (le : Bool) (wl : Nat) : Nat := if le then wl else wl - 1
def wdW (le : Bool) (wl : Nat) (wd : Int32) : Int32 := if okW le wl then wd + nI 1 else wd
/-- the disk becomes D1, if power lasts -/
def pwr (le : Bool) (D : Nat → Nat) (wl : Nat) (wd : Int32) (D1 : Nat → Nat) : Bool × (Nat → Nat) × Nat × Int32 := (okW le wl, if okW le wl then D1 else D, wlW le wl, wdW le wl wd)
theorem mPut_pwr (le : Bool) (wl : Nat) (wd : Int32) (D : Nat → Nat) (rn : Nat) (row : Nat → Nat) : mPut le wl wd D rn row = pwr le D wl wd (cpW row D rn) := by
  cases le
  · by_cases h : wl = 0
    · simp [mPut, pwr, okW, wlW, wdW, h]
    · simp [mPut, pwr, okW, wlW, wdW, h]
  · simp [mPut, pwr, okW, wlW, wdW]
theorem cpW_congr {row row' D : Nat → Nat} {rn : Nat} (h : ∀ j, j < 16 → row j = row' j) : cpW row D rn = cpW row' D rn := by
  funext j
  by_cases q : 16 * rn ≤ j ∧ j < 16 * rn + 16
  · simp only [cpW]; rw [pk_cpy_in q.1 q.2, pk_cpy_in q.1 q.2]; exact h _ (by omega)
  · simp only [cpW]; rw [pk_cpy_out (by omega), pk_cpy_out (by omega)]
theorem cpW_in {row D : Nat → Nat} {rn i : Nat} (h : i < 16) : cpW row D rn (16 * rn + i) = row i := by
  simp only [cpW]; rw [pk_cpy_in (by omega) (by omega)]; congr 1; omega
theorem cpW_out {row D : Nat → Nat} {rn j : Nat} (h : j < 16 * rn ∨ 16 * rn + 16 ≤ j) : cpW row D rn j = D j := pk_cpy_out h
def zbN (bl : Nat → Nat) : Nat → Nat := va_cpy (fun _ => 0) bl 0 0 7
/-- the rows, without what stood in the draft before -/
def kpD (D : Nat → Nat) (en : Nat) (bl : Nat → Nat) (ct : Nat) : Nat → Nat := cpW (pdR bl ct (gtR D en (fun _ => 0))) D en
def nwD (D : Nat → Nat) (en U : Nat) (w : Nat → Nat) (sn : Nat) : Nat → Nat := cpW (pdR (fun _ => 0) 0 (meR U w sn (fun _ => 0))) D en
def efD (D : Nat → Nat) (en : Nat) : Nat → Nat := cpW (va_up (gtR D en (fun _ => 0)) 0 229) D en
def nmD (D : Nat → Nat) (en : Nat) (w : Nat → Nat) : Nat → Nat := cpW (nmR D en w (fun _ => 0)) D en
def gdD (D : Nat → Nat) (en : Nat) (gd : Bool) : Nat → Nat := cpW (gdR D en gd (fun _ => 0)) D en
theorem gtR_in {D dr : Nat → Nat} {rn j : Nat} (h : j < 16) : gtR D rn dr j = D (16 * rn + j) := pk_cpy_in (Nat.zero_le j) (by omega)
theorem va_up_congr {α : Type} {f g : Nat → α} {k j : Nat} {v : α} (h : f j = g j) : va_up f k v j = va_up g k v j := by
  by_cases e : j = k
  · rw [e, va_up_self, va_up_self]
  · rw [va_up_ne _ _ e, va_up_ne _ _ e, h]
theorem cpy_congr {α : Type} {f g g' : Nat → α} {sp dp n j : Nat} (h : g j = g' j) : va_cpy f g sp dp n j = va_cpy f g' sp dp n j := by
  simp only [va_cpy, h]
theorem kp_dr (D : Nat → Nat) (en : Nat) (bl : Nat → Nat) (ct : Nat) (dr : Nat → Nat) : cpW (pdR bl ct (gtR D en dr)) D en = kpD D en bl ct :=
  cpW_congr (fun j h => cpy_congr (va_up_congr (by rw [gtR_in h, gtR_in h])))
theorem ef_dr (D : Nat → Nat) (en : Nat) (dr : Nat → Nat) : cpW (va_up (gtR D en dr) 0 229) D en = efD D en :=
  cpW_congr (fun j h => va_up_congr (by rw [gtR_in h, gtR_in h]))
theorem nm_dr (D : Nat → Nat) (en : Nat) (w dr : Nat → Nat) : cpW (nmR D en w dr) D en = nmD D en w :=
  cpW_congr (fun j h => va_up_congr (cpy_congr (by rw [gtR_in h, gtR_in h])))
theorem gd_dr (D : Nat → Nat) (en : Nat) (gd : Bool) (dr : Nat → Nat) : cpW (gdR D en gd dr) D en = gdD D en gd :=
  cpW_congr (fun j h => va_up_congr (by rw [gtR_in h, gtR_in h]))
theorem pdR_lo {bl dr : Nat → Nat} {ct j : Nat} (h : j < 8) : pdR bl ct dr j = dr j := by
  simp only [pdR]; rw [pk_cpy_out (by omega), va_up_ne _ _ (by omega)]
theorem pdR_8 {bl dr : Nat → Nat} {ct : Nat} : pdR bl ct dr 8 = ct := by
  simp only [pdR]; rw [pk_cpy_out (by omega), va_up_self]
theorem pdR_hi {bl dr : Nat → Nat} {ct k : Nat} (h : k < 7) : pdR bl ct dr (k + 9) = bl k := by
  simp only [pdR]; rw [pk_cpy_in (by omega) (by omega)]; congr 1; omega
theorem meR_0 {U st : Nat} {w dr : Nat → Nat} : meR U w st dr 0 = U := by
  simp only [meR]; rw [va_up_ne _ _ (by omega), pk_cpy_out (by omega), va_up_self]
theorem meR_w {U st k : Nat} {w dr : Nat → Nat} (h : k < 6) : meR U w st dr (k + 1) = w k := by
  simp only [meR]; rw [va_up_ne _ _ (by omega), pk_cpy_in (by omega) (by omega)]; congr 1; omega
theorem meR_7 {U st : Nat} {w dr : Nat → Nat} : meR U w st dr 7 = st := by
  simp only [meR]; rw [va_up_self]
theorem zbN_in {bl : Nat → Nat} {k : Nat} (h : k < 7) : zbN bl k = 0 := pk_cpy_in (Nat.zero_le k) (by omega)
theorem row_split {P : Nat → Prop} (h0 : P 0) (h1 : ∀ k, k < 6 → P (k + 1)) (h7 : P 7) (h8 : P 8) (h9 : ∀ k, k < 7 → P (k + 9)) : ∀ j, j < 16 → P j := by
  intro j h
  by_cases a : j = 0
  · subst a; exact h0
  by_cases b : j < 7
  · have := h1 (j - 1) (by omega); rwa [show j - 1 + 1 = j by omega] at this
  by_cases c : j = 7
  · subst c; exact h7
  by_cases d : j = 8
  · subst d; exact h8
  · have := h9 (j - 9) (by omega); rwa [show j - 9 + 9 = j by omega] at this
theorem nw_dr (D : Nat → Nat) (en U : Nat) (w : Nat → Nat) (sn : Nat) (bl dr : Nat → Nat) : cpW (pdR (zbN bl) 0 (meR U w sn dr)) D en = nwD D en U w sn := by
  refine cpW_congr (row_split ?_ ?_ ?_ ?_ ?_)
  · rw [pdR_lo (by omega), pdR_lo (by omega), meR_0, meR_0]
  · intro k h; rw [pdR_lo (by omega), pdR_lo (by omega), meR_w h, meR_w h]
  · rw [pdR_lo (by omega), pdR_lo (by omega), meR_7, meR_7]
  · rw [pdR_8, pdR_8]
  · intro k h; rw [pdR_hi h, pdR_hi h, zbN_in h]
/-! bounds -/
theorem cpy_lt {f g : Nat → Nat} {B : Nat} (hf : ∀ j, f j < B) (hg : ∀ j, g j < B) (sp dp n : Nat) : ∀ j, va_cpy f g sp dp n j < B := by
  intro j; simp only [va_cpy]; split
  · exact hf _
  · exact hg _
theorem up_lt {f : Nat → Nat} {B : Nat} (hf : ∀ j, f j < B) {v : Nat} (hv : v < B) (k : Nat) : ∀ j, va_up f k v j < B := by
  intro j; simp only [va_up]; split
  · exact hv
  · exact hf _
theorem pwr_lt {le : Bool} {D D1 : Nat → Nat} {wl : Nat} {wd : Int32} (h : ∀ j, D j < 256) (h1 : ∀ j, D1 j < 256) : ∀ j, (pwr le D wl wd D1).2.1 j < 256 := by
  intro j; simp only [pwr]; split
  · exact h1 j
  · exact h j
theorem wlW_le {le : Bool} {wl : Nat} (h : wl ≤ 1000) : wlW le wl ≤ 1000 := by simp only [wlW]; split <;> omega
theorem zr_lt : ∀ j : Nat, (fun _ : Nat => 0) j < 256 := fun _ => Nat.zero_lt_succ _
theorem kpD_lt {D bl : Nat → Nat} {en ct : Nat} (hD : ∀ j, D j < 256) (hb : ∀ j, bl j < 256) (hc : ct < 256) : ∀ j, kpD D en bl ct j < 256 :=
  cpy_lt (cpy_lt hb (up_lt (cpy_lt hD zr_lt _ _ _) hc _) _ _ _) hD _ _ _
theorem nwD_lt {D w : Nat → Nat} {en U sn : Nat} (hD : ∀ j, D j < 256) (hw : ∀ j, w j < 128) (hU : U < 16) (hs : sn < 16) : ∀ j, nwD D en U w sn j < 256 :=
  cpy_lt (cpy_lt zr_lt (up_lt (up_lt (cpy_lt (fun j => by have := hw j; omega) (up_lt zr_lt (by omega) _) _ _ _) (by omega) _) (by omega) _) _ _ _) hD _ _ _
theorem efD_lt {D : Nat → Nat} {en : Nat} (hD : ∀ j, D j < 256) : ∀ j, efD D en j < 256 := cpy_lt (up_lt (cpy_lt hD zr_lt _ _ _) (by omega) _) hD _ _ _
theorem nmD_lt {D w : Nat → Nat} {en : Nat} (hD : ∀ j, D j < 256) (hw : ∀ j, w j < 128) : ∀ j, nmD D en w j < 256 :=
  cpy_lt (up_lt (cpy_lt (fun j => by have := hw j; omega) (cpy_lt hD zr_lt _ _ _) _ _ _) (by have := hw 4; have := hD (16 * en + 5); omega) _) hD _ _ _
theorem gdD_lt {D : Nat → Nat} {en : Nat} {gd : Bool} (hD : ∀ j, D j < 256) : ∀ j, gdD D en gd j < 256 :=
  cpy_lt (up_lt (cpy_lt hD zr_lt _ _ _) (by have := hD (16 * en + 5); split <;> omega) _) hD _ _ _
theorem zbN_lt {bl : Nat → Nat} (h : ∀ j, bl j < 256) : ∀ j, zbN bl j < 256 := cpy_lt zr_lt h _ _ _
/-! the functions -/
/-- close, but for the control -/
def mKeep (le : Bool) (D : Nat → Nat) (wl : Nat) (wd : Int32) (U : Nat) (w bl : Nat → Nat) (st ct : Nat) : Int32 × (Nat → Nat) × Nat × Int32 :=
  if fnd (fsB D U w st) 32 0 = -1 then (-1, D, wl, wd)
  else (if okW le wl then fnd (fsB D U w st) 32 0 else -9, (pwr le D wl wd (kpD D (fnd (fsB D U w st) 32 0).toNatClampNeg bl ct)).2)
/-- the first free entry becomes one of stretch sn: the answer, the disk, the control -/
def mNew (le : Bool) (D : Nat → Nat) (wl : Nat) (wd : Int32) (U : Nat) (w bl : Nat → Nat) (st ct pl sn : Nat) : Int32 × (Nat → Nat) × Nat × Int32 × (Nat → Nat) × Nat × Nat × Nat :=
  if fnd (frB D) 32 0 = -1 then (-2, D, wl, wd, bl, st, ct, pl)
  else (if okW le wl then fnd (frB D) 32 0 else -9, (pwr le D wl wd (nwD D (fnd (frB D) 32 0).toNatClampNeg U w sn)).2.1, wlW le wl, wdW le wl wd, zbN bl, sn, 0, 0)
def zI (r : Int32) : Int32 := if r < 0 then r else 0
def mGo (le : Bool) (D : Nat → Nat) (wl : Nat) (wd : Int32) (U : Nat) (w bl : Nat → Nat) (st ct pl sn : Nat) (puts : Bool) : Int32 × (Nat → Nat) × Nat × Int32 × (Nat → Nat) × Nat × Nat × Nat :=
  if 16 ≤ sn then (-2, D, wl, wd, bl, st, ct, pl) else if sn = st then (0, D, wl, wd, bl, st, ct, pl) else
  match mKeep le D wl wd U w bl st ct with
  | (k, D1, wl1, wd1) => if k < 0 then (k, D1, wl1, wd1, bl, st, ct, pl) else
    if fnd (fsB D1 U w sn) 32 0 = -1 then (if puts then (match mNew le D1 wl1 wd1 U w bl st ct pl sn with | (r, y) => (zI r, y)) else (-1, D1, wl1, wd1, bl, st, ct, pl))
    else (0, D1, wl1, wd1, va_cpy D1 bl (16 * (fnd (fsB D1 U w sn) 32 0).toNatClampNeg + 9) 0 7, D1 (16 * (fnd (fsB D1 U w sn) 32 0).toNatClampNeg + 7), D1 (16 * (fnd (fsB D1 U w sn) 32 0).toNatClampNeg + 8), 0)
def mPR2 (le : Bool) (D : Nat → Nat) (T : Nat → Bool) (wl : Nat) (wd : Int32) (bl : Nat → Nat) (ct : Nat) (bf : Nat → Nat) (p : Nat) : Int32 × (Nat → Nat) × (Nat → Bool) × Nat × Int32 × (Nat → Nat) × Nat :=
  (if okW le wl then 0 else -9, (pwr le D wl wd (cpW bf D (4 * (bl (p / 4) % 64) + p % 4))).2.1, T, wlW le wl, wdW le wl wd, bl, if okW le wl then max ct (p + 1) else ct)
def mPR (le ro : Bool) (D : Nat → Nat) (T : Nat → Bool) (wl : Nat) (wd : Int32) (bl : Nat → Nat) (ct : Nat) (bf : Nat → Nat) (p : Nat) : Int32 × (Nat → Nat) × (Nat → Bool) × Nat × Int32 × (Nat → Nat) × Nat :=
  if ro then (-3, D, T, wl, wd, bl, ct) else
  if bl (p / 4) = 0 then (if (lsF T 56 8).1 = -1 then (-4, D, T, wl, wd, bl, ct) else mPR2 le D (lsF T 56 8).2 wl wd (va_up bl (p / 4) (lsF T 56 8).1.toNatClampNeg) ct bf p)
  else mPR2 le D T wl wd bl ct bf p
def mGR (D bl : Nat → Nat) (ct : Nat) (bf : Nat → Nat) (p : Nat) : Int32 × (Nat → Nat) :=
  if ct ≤ p ∨ bl (p / 4) = 0 then (-1, bf) else (0, gtR D (4 * (bl (p / 4) % 64) + p % 4) bf)
def mMv (le ro : Bool) (D : Nat → Nat) (T : Nat → Bool) (wl : Nat) (wd : Int32) (bl : Nat → Nat) (ct : Nat) (bf : Nat → Nat) (p : Nat) (puts : Bool) : Int32 × (Nat → Nat) × (Nat → Bool) × Nat × Int32 × (Nat → Nat) × Nat × (Nat → Nat) :=
  if puts then (match mPR le ro D T wl wd bl ct bf p with | (r, D1, T1, wl1, wd1, bl1, ct1) => (r, D1, T1, wl1, wd1, bl1, ct1, bf))
  else (match mGR D bl ct bf p with | (r, bf1) => (r, D, T, wl, wd, bl, ct, bf1))
/-- read and write -/
def mNx2 (le ro : Bool) (D : Nat → Nat) (T : Nat → Bool) (wl : Nat) (wd : Int32) (bl : Nat → Nat) (st ct pl : Nat) (bf : Nat → Nat) (puts : Bool) : Int32 × (Nat → Nat) × (Nat → Bool) × Nat × Int32 × (Nat → Nat) × Nat × Nat × Nat × (Nat → Nat) :=
  match mMv le ro D T wl wd bl ct bf pl puts with
  | (r, D1, T1, wl1, wd1, bl1, ct1, bf1) => (r, D1, T1, wl1, wd1, bl1, st, ct1, if r = 0 then pl + 1 else pl, bf1)
def mNx (le op ro : Bool) (D : Nat → Nat) (T : Nat → Bool) (wl : Nat) (wd : Int32) (U : Nat) (w bl : Nat → Nat) (st ct pl : Nat) (bf : Nat → Nat) (puts : Bool) : Int32 × (Nat → Nat) × (Nat → Bool) × Nat × Int32 × (Nat → Nat) × Nat × Nat × Nat × (Nat → Nat) :=
  if op = false then (-1, D, T, wl, wd, bl, st, ct, pl, bf) else
  if 28 ≤ pl then (match mGo le D wl wd U w bl st ct pl (st + 1) puts with
    | (g, D1, wl1, wd1, bl1, st1, ct1, pl1) => if g = 0 then mNx2 le ro D1 T wl1 wd1 bl1 st1 ct1 pl1 bf puts else (g, D1, T, wl1, wd1, bl1, st1, ct1, pl1, bf))
  else mNx2 le ro D T wl wd bl st ct pl bf puts
/-- at record R -/
def mAt (le op ro : Bool) (D : Nat → Nat) (T : Nat → Bool) (wl : Nat) (wd : Int32) (U : Nat) (w bl : Nat → Nat) (st ct pl : Nat) (bf : Nat → Nat) (rec : Nat) (puts : Bool) : Int32 × (Nat → Nat) × (Nat → Bool) × Nat × Int32 × (Nat → Nat) × Nat × Nat × Nat × (Nat → Nat) :=
  if op = false then (-1, D, T, wl, wd, bl, st, ct, pl, bf) else
  match mGo le D wl wd U w bl st ct pl (rec / 28) puts with
  | (g, D1, wl1, wd1, bl1, st1, ct1, pl1) => if g = 0 then
      (match mMv le ro D1 T wl1 wd1 bl1 ct1 bf (rec % 28) puts with
        | (r, D2, T2, wl2, wd2, bl2, ct2, bf2) => (r, D2, T2, wl2, wd2, bl2, st1, ct2, if r = 0 then rec % 28 else pl1, bf2))
      else (g, D1, T, wl1, wd1, bl1, st1, ct1, pl1, bf)
/-! what stays in bounds -/
theorem mKeep_ok {le : Bool} {D : Nat → Nat} {wl : Nat} {wd : Int32} {U : Nat} {w bl : Nat → Nat} {st ct : Nat} (hD : ∀ j, D j < 256) (hl : wl ≤ 1000) (hb : ∀ j, bl j < 256) (hc : ct < 256) :
    (∀ j, (mKeep le D wl wd U w bl st ct).2.1 j < 256) ∧ (mKeep le D wl wd U w bl st ct).2.2.1 ≤ 1000 := by
  simp only [mKeep]; split
  · exact ⟨hD, hl⟩
  · exact ⟨pwr_lt (wd := wd) hD (kpD_lt hD hb hc), wlW_le hl⟩
theorem mNew_ok {le : Bool} {D : Nat → Nat} {wl : Nat} {wd : Int32} {U : Nat} {w bl : Nat → Nat} {st ct pl sn : Nat} (hD : ∀ j, D j < 256) (hw : ∀ j, w j < 128) (hU : U < 16) (hl : wl ≤ 1000) (hb : ∀ j, bl j < 256) (hs : st < 16) (hc : ct < 256) (hp : pl ≤ 28) (hn : sn < 16) :
    (∀ j, (mNew le D wl wd U w bl st ct pl sn).2.1 j < 256) ∧ (mNew le D wl wd U w bl st ct pl sn).2.2.1 ≤ 1000 ∧ (∀ j, (mNew le D wl wd U w bl st ct pl sn).2.2.2.2.1 j < 256) ∧ (mNew le D wl wd U w bl st ct pl sn).2.2.2.2.2.1 < 16 ∧ (mNew le D wl wd U w bl st ct pl sn).2.2.2.2.2.2.1 < 256 ∧ (mNew le D wl wd U w bl st ct pl sn).2.2.2.2.2.2.2 ≤ 28 := by
  simp only [mNew]; split
  · exact ⟨hD, hl, hb, hs, hc, hp⟩
  · exact ⟨pwr_lt (wd := wd) hD (nwD_lt hD hw hU hn), wlW_le hl, zbN_lt hb, hn, Nat.zero_lt_succ _, Nat.zero_le _⟩
def okG (y : Int32 × (Nat → Nat) × Nat × Int32 × (Nat → Nat) × Nat × Nat × Nat) : Prop := (∀ j, y.2.1 j < 256) ∧ y.2.2.1 ≤ 1000 ∧ (∀ j, y.2.2.2.2.1 j < 256) ∧ y.2.2.2.2.2.1 < 16 ∧ y.2.2.2.2.2.2.1 < 256 ∧ y.2.2.2.2.2.2.2 ≤ 28
theorem fnd_some {P : Nat → Bool} (h : ¬ fnd P 32 0 = -1) : (fnd P 32 0).toNatClampNeg < 32 ∧ P (fnd P 32 0).toNatClampNeg = true ∧ fnd P 32 0 = nI (fnd P 32 0).toNatClampNeg := by
  rcases fnd_cases P 32 0 with q | ⟨j, h1, h2, h3, h4⟩
  · exact absurd q h
  · rw [h4, nI_clamp (by omega)]; exact ⟨by omega, h3, rfl⟩
theorem mGo_ok {le : Bool} {D : Nat → Nat} {wl : Nat} {wd : Int32} {U : Nat} {w bl : Nat → Nat} {st ct pl sn : Nat} {puts : Bool} (hD : ∀ j, D j < 256) (hw : ∀ j, w j < 128) (hU : U < 16) (hl : wl ≤ 1000) (hb : ∀ j, bl j < 256) (hs : st < 16) (hc : ct < 256) (hp : pl ≤ 28) :
    okG (mGo le D wl wd U w bl st ct pl sn puts) := by
  have h0 : ∀ r : Int32, okG (r, D, wl, wd, bl, st, ct, pl) := fun r => ⟨hD, hl, hb, hs, hc, hp⟩
  have hk := mKeep_ok (le := le) (wd := wd) (U := U) (w := w) (st := st) hD hl hb hc
  simp only [mGo]
  generalize mKeep le D wl wd U w bl st ct = k at hk ⊢
  obtain ⟨k, D1, wl1, wd1⟩ := k
  dsimp only at hk ⊢
  split
  · exact h0 _
  split
  · exact h0 _
  split
  · exact ⟨hk.1, hk.2, hb, hs, hc, hp⟩
  rename_i h16 _ _
  split
  · split
    · have hn := mNew_ok (le := le) (wd := wd1) (sn := sn) hk.1 hw hU hk.2 hb hs hc hp (by omega)
      generalize mNew le D1 wl1 wd1 U w bl st ct pl sn = y at hn ⊢
      exact hn
    · exact ⟨hk.1, hk.2, hb, hs, hc, hp⟩
  · rename_i hf
    obtain ⟨f1, f2, -⟩ := fnd_some hf
    simp only [fsB, Bool.and_eq_true, decide_eq_true_eq] at f2
    exact ⟨hk.1, hk.2, cpy_lt hk.1 hb _ _ _, by show D1 _ < 16; omega, hk.1 _, Nat.zero_le _⟩
/-- blocks that an entry tells are taken, given back -/
def tkB (D : Nat → Nat) (en : Nat) (T : Nat → Bool) : Nat → Nat → Bool
  | 0 => T
  | k + 1 => va_up (tkB D en T k) (D (16 * en + k + 9) % 64) true
def gbB (D : Nat → Nat) (en : Nat) (T : Nat → Bool) : Nat → Nat → Bool
  | 0 => T
  | k + 1 => va_up (gbB D en T k) (D (16 * en + k + 9) % 64) (decide (D (16 * en + k + 9) % 64 < 8))
def tkE (D : Nat → Nat) (T : Nat → Bool) : Nat → Nat → Bool
  | 0 => T
  | e + 1 => if frB D e then tkE D T e else tkB D e (tkE D T e) 7
