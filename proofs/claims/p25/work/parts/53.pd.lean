/-! ===== draws: along the chain of wells above ===== -/
def mo (N : Nat → Int32) (w0 g : Nat) : Int32 := if g = w0 then N (8 + 12 * g + 4) else jmin (N (8 + 12 * g + 4)) (N (8 + 12 * g + 3))
def abv (N : Nat → Int32) (g : Nat) : Nat := (N (8 + 12 * g)).toNatClampNeg
def abl (N : Nat → Int32) (w0 : Nat) : Nat → Nat → Int
  | 0 => fun _ => 0
  | f + 1 => fun g => (mo N w0 g).toInt + (if g = 0 then 0 else abl N w0 f (abv N g))
def shr (N : Nat → Int32) (w0 : Nat) : Nat → Nat → Int32 → (Nat → Int32) → (Nat → Int32)
  | 0 => fun _ _ S => S
  | f + 1 => fun g y S => if g = 0 then upd S g (jmin y (mo N w0 g)) else shr N w0 f (abv N g) (y - jmin y (mo N w0 g)) (upd S g (jmin y (mo N w0 g)))
def shl (N : Nat → Int32) (w0 : Nat) : Nat → Nat → Int32 → Int32
  | 0 => fun _ y => y
  | f + 1 => fun g y => if g = 0 then y - jmin y (mo N w0 g) else shl N w0 f (abv N g) (y - jmin y (mo N w0 g))
def tkd (w0 g : Nat) (x : Int32) (M : Nat → Int32) : Nat → Int32 := ad (ad M g 4 (-x)) g (if g = w0 then 8 else 9) x
def tk (N : Nat → Int32) (w0 : Nat) : Nat → Nat → Int32 → (Nat → Int32) → (Nat → Int32)
  | 0 => fun _ _ M => M
  | f + 1 => fun g y M => if g = 0 then tkd w0 g (jmin y (mo N w0 g)) M else tk N w0 f (abv N g) (y - jmin y (mo N w0 g)) (tkd w0 g (jmin y (mo N w0 g)) M)
def tl (N : Nat → Int32) (w0 : Nat) : Nat → Nat → Int32 → Int32 → Int32
  | 0 => fun _ _ l => l
  | f + 1 => fun g y l => if g = 0 then l + (if g = w0 then 0 else jmin y (mo N w0 g)) else tl N w0 f (abv N g) (y - jmin y (mo N w0 g)) (l + (if g = w0 then 0 else jmin y (mo N w0 g)))
theorem abv_eq {N : Nat → Int32} {g : Nat} (h : WW N g) (hg : 0 < g) (h12 : g < 12) : N (8 + 12 * g) = nI (abv N g) ∧ abv N g < g := by
  obtain ⟨a, ha, ea⟩ := h.2.1 hg
  unfold abv
  rw [ea, nI_clamp (by omega)]
  exact ⟨rfl, ha⟩
theorem mo_rng {N : Nat → Int32} {w0 g : Nat} (h : WW N g) : 0 ≤ (mo N w0 g).toInt ∧ (mo N w0 g).toInt ≤ (N (8 + 12 * g + 4)).toInt ∧ (mo N w0 g).toInt ≤ 1000 := by
  obtain ⟨-, -, h1, -, h3, h2⟩ := h
  unfold mo
  by_cases c : g = w0
  · rw [if_pos c]; omega
  · rw [if_neg c, jmin_toInt]; omega
theorem abl_rng {N : Nat → Int32} {w0 n : Nat} (hn : n ≤ 12) (hW : ∀ w, w < n → WW N w) : ∀ f g, g < n → 0 ≤ abl N w0 f g ∧ abl N w0 f g ≤ 1000 * f := by
  intro f
  induction f with
  | zero => intro g _; exact ⟨Int.le_refl _, by show (0 : Int) ≤ _; omega⟩
  | succ f ih =>
    intro g hg
    have h1 := mo_rng (w0 := w0) (hW g hg)
    show 0 ≤ (mo N w0 g).toInt + (if g = 0 then 0 else abl N w0 f (abv N g)) ∧ (mo N w0 g).toInt + (if g = 0 then 0 else abl N w0 f (abv N g)) ≤ 1000 * ((f + 1 : Nat) : Int)
    by_cases c : g = 0
    · rw [if_pos c]; omega
    · rw [if_neg c]
      have h2 := ih (abv N g) (by have := (abv_eq (hW g hg) (by omega) (by omega)).2; omega)
      omega
theorem m1_lt : (-1 : Int32) < 0 := by decide
/-- the reference's sum of what can be drawn -/
theorem able_loop {n d q : Nat} {T : Int} {V : FV} {N : Nat → Int32} (hN : V 1 = N) (hW : Wf n d q T N) {w0 : Nat} {y1 : Int32} : ∀ (f g m : Nat) (y : Int32), g < f → g < w0 → g < n → 0 ≤ y.toInt → y.toInt + 1000 * f ≤ 1000000 → ∃ r, f_X4_ableOf_L14 V (m + f + 1) y1 y (nI g) = some r ∧ r.toInt = y.toInt + abl N w0 f g := by
  intro f
  induction f with
  | zero => intro g m y h; exact absurd h (by omega)
  | succ f ih =>
    intro g m y hgf hgw hgn hy hyb
    have hb := hW.1
    have hWg := hW.2.2.2.2.1 g hgn
    have hm := mo_rng (w0 := w0) hWg
    have emo : mo N w0 g = jmin (N (8 + 12 * g + 4)) (N (8 + 12 * g + 3)) := if_neg (by omega)
    show ∃ r, (if nI g < 0 then some y else ((f_X4_of V (nI g) 4).bind fun x4 => ((f_X4_of V (nI g) 3).bind fun x5 => ((f_X4_least x4 x5).bind fun x6 => ((f_X4_of V (nI g) 0).bind fun x7 => (f_X4_ableOf_L14 V (m + f + 1) y1 (y + x6) x7)))))) = some r ∧ r.toInt = y.toInt + ((mo N w0 g).toInt + (if g = 0 then 0 else abl N w0 f (abv N g)))
    have hsum : (y + mo N w0 g).toInt = y.toInt + (mo N w0 g).toInt := fb_addI (by omega) (by omega)
    rw [if_neg (nI_pos (by omega)), show f_X4_of V (nI g) 4 = some (N (8 + 12 * g + 4)) from hN ▸ of_eq (k := 4) (by omega) (by omega), show f_X4_of V (nI g) 3 = some (N (8 + 12 * g + 3)) from hN ▸ of_eq (k := 3) (by omega) (by omega), show f_X4_of V (nI g) 0 = some (N (8 + 12 * g)) from hN ▸ of_eq (k := 0) (by omega) (by omega)]
    simp only [ob_s, least_eq]
    rw [← emo]
    by_cases c : g = 0
    · rw [if_pos c, hWg.1 c]
      refine ⟨y + mo N w0 g, ?_, by rw [hsum]; omega⟩
      rfl
    · rw [if_neg c]
      obtain ⟨e1, e2⟩ := abv_eq hWg (by omega) (by omega)
      rw [e1]
      obtain ⟨r, h1, h2⟩ := ih (abv N g) m (y + mo N w0 g) (by omega) (by omega) (by omega) (by omega) (by omega)
      exact ⟨r, h1, by rw [h2, hsum]; omega⟩
theorem ableOf_eq {n d q : Nat} {T : Int} {V : FV} {N : Nat → Int32} (hN : V 1 = N) (hW : Wf n d q T N) {w0 : Nat} (hw : w0 < n) : ∃ r, f_X4_ableOf V (nI w0) = some r ∧ r.toInt = abl N w0 12 w0 := by
  have hb := hW.1
  have hWg := hW.2.2.2.2.1 w0 hw
  have hm := mo_rng (w0 := w0) hWg
  have emo : mo N w0 w0 = N (8 + 12 * w0 + 4) := if_pos rfl
  unfold f_X4_ableOf
  rw [show f_X4_of V (nI w0) 4 = some (N (8 + 12 * w0 + 4)) from hN ▸ of_eq (k := 4) (by omega) (by omega), show f_X4_of V (nI w0) 0 = some (N (8 + 12 * w0)) from hN ▸ of_eq (k := 0) (by omega) (by omega)]
  simp only [ob_s]
  rw [← emo]
  show ∃ r : Int32, _ ∧ r.toInt = (mo N w0 w0).toInt + (if w0 = 0 then 0 else abl N w0 11 (abv N w0))
  by_cases c : w0 = 0
  · rw [if_pos c, hWg.1 c]
    exact ⟨mo N w0 w0, by obtain ⟨m, hmf⟩ := FUEL_ge (k := 1) (by omega); rw [hmf]; rfl, by omega⟩
  · rw [if_neg c]
    obtain ⟨e1, e2⟩ := abv_eq hWg (by omega) (by omega)
    rw [e1]
    obtain ⟨m, hmf⟩ := FUEL_ge (k := 12) (by omega)
    obtain ⟨r, h1, h2⟩ := able_loop hN hW (y1 := nI w0) 11 (abv N w0) m (mo N w0 w0) (by omega) e2 (by omega) (by omega) (by omega)
    exact ⟨r, by rw [hmf]; exact h1, h2⟩
/-! the class's shares -/
def sS (V : FV) (S : Nat → Int32) : FV := fun a => if a = 5 then S else V a
theorem sS_ne {V : FV} {S : Nat → Int32} {a : Nat} (h : a ≠ 5) : sS V S a = V a := if_neg h
theorem sS_st {V : FV} {S : Nat → Int32} {g : Nat} {x : Int32} : st (sS V S) 5 g x = sS V (upd S g x) := by
  funext a
  unfold st sS
  by_cases h : a = 5
  · rw [if_pos h, if_pos h, if_pos rfl]
  · rw [if_neg h, if_neg h, if_neg h]
theorem sS_sS {V : FV} {S S' : Nat → Int32} : sS (sS V S) S' = sS V S' := by
  funext a
  unfold sS
  by_cases h : a = 5
  · rw [if_pos h, if_pos h]
  · rw [if_neg h, if_neg h, if_neg h]
theorem Rel.sS {n d q : Nat} {V : FV} {N S : Nat → Int32} (h : Rel n d q V N) : Rel n d q (sS V S) N := by
  obtain ⟨⟨a1, a2, a3, a4, a5, a6, a7, a8, a9, a10⟩, b, c, e, f, g⟩ := h
  refine ⟨⟨a1, a2, a3, a4, a5, a6, a7, a8, a9, a10⟩, ?_, ?_, ?_, ?_, ?_⟩
  · intro w r h1 h2; rw [sS_ne (by omega)]; exact b w r h1 h2
  · intro w h1; rw [sS_ne (by omega)]; exact c w h1
  · intro w r h1 h2 h3 h4; rw [sS_ne (by omega)]; exact e w r h1 h2 h3 h4
  · intro i k h1 h2; rw [sS_ne (by omega)]; exact f i k h1 h2
  · intro i k h1 h2; rw [sS_ne (by omega)]; exact g i k h1 h2
theorem share_loop {n d q : Nat} {T : Int} {V : FV} {N : Nat → Int32} (hO : Ok n d q T V N) {w0 : Nat} (hw0 : w0 < 12) {b : Int32} : ∀ (f s g m : Nat) (y : Int32) (S : Nat → Int32), s + f = 12 → g < f → g < n → f_X0_shareOut_L16 (m + f + 1) (nI w0) b y (nI g) (nI s) (sS V S) = some (b - shl N w0 f g y, sS V (shr N w0 f g y S)) := by
  intro f
  induction f with
  | zero => intro s g m y S _ h; exact absurd h (by omega)
  | succ f ih =>
    intro s g m y S hsf hgf hgn
    have hb := hO.2.1
    have hWg := hO.2.2.2.2.2.1 g hgn
    have h10 : V 10 g = N (8 + 12 * g + 4) := hO.1.2.1 g 4 hgn (by omega)
    have h9 : V 9 g = N (8 + 12 * g + 3) := hO.1.2.1 g 3 hgn (by omega)
    have h6 : V 6 g = N (8 + 12 * g) := hO.1.2.1 g 0 hgn (by omega)
    have tail : ∀ (x : Int32), f_X0_shareOut_L16 (m + f + 1) (nI w0) b (y - x) (N (8 + 12 * g)) (nI (s + 1)) (sS V (upd S g x)) = some (b - (if g = 0 then y - x else shl N w0 f (abv N g) (y - x)), sS V (if g = 0 then upd S g x else shr N w0 f (abv N g) (y - x) (upd S g x))) := by
      intro x
      by_cases c : g = 0
      · rw [if_pos c, if_pos c, hWg.1 c]
        show (if 12 ≤ nI (s + 1) then some (b - (y - x), sS V (upd S g x)) else ((f_X0_isWell (sS V (upd S g x)) (-1)).bind fun x3 => (if x3 = 0 then some (b - (y - x), sS V (upd S g x)) else _))) = _
        by_cases c2 : (12 : Int32) ≤ nI (s + 1)
        · rw [if_pos c2]
        · rw [if_neg c2, x0_isWell_n (n := n) (hO.1.sS.1.1) (Or.inl m1_lt), ob_s, if_pos rfl]
      · rw [if_neg c, if_neg c]
        obtain ⟨e1, e2⟩ := abv_eq hWg (by omega) (by omega)
        rw [e1]
        exact ih (s + 1) (abv N g) m (y - x) (upd S g x) (by omega) (by omega) (by omega)
    show (if 12 ≤ nI s then some (b - y, sS V S) else ((f_X0_isWell (sS V S) (nI g)).bind fun x3 => (if x3 = 0 then some (b - y, sS V S) else ((rd 12 (sS V S 10) (nI g)).bind fun x5 => (if nI g = nI w0 then (lt1 (jmin y x5) fun x13 => ((wr 12 (sS V S) 5 (nI g) x13).bind fun V14 => ((rd 12 (V14 5) (nI g)).bind fun x15 => ((rd 12 (V14 6) (nI g)).bind fun x16 => (f_X0_shareOut_L16 (m + f + 1) (nI w0) b (y - x15) x16 (nI s + 1) V14))))) else ((rd 12 (sS V S 9) (nI g)).bind fun x7 => (lt1 (jmin x5 x7) fun x8 => (lt1 (jmin y x8) fun x9 => ((wr 12 (sS V S) 5 (nI g) x9).bind fun V10 => ((rd 12 (V10 5) (nI g)).bind fun x11 => ((rd 12 (V10 6) (nI g)).bind fun x12 => (f_X0_shareOut_L16 (m + f + 1) (nI w0) b (y - x11) x12 (nI s + 1) V10)))))))))))) = some (b - (if g = 0 then y - jmin y (mo N w0 g) else shl N w0 f (abv N g) (y - jmin y (mo N w0 g))), sS V (if g = 0 then upd S g (jmin y (mo N w0 g)) else shr N w0 f (abv N g) (y - jmin y (mo N w0 g)) (upd S g (jmin y (mo N w0 g)))))
    rw [show (12 : Int32) = nI 12 from rfl, if_neg (nI_ge (by omega) (by omega)), x0_isWell_y (hO.1.sS.1.1) hb.1 hgn, ob_s, if_neg (by decide), rd_nI (by omega) (by omega), ob_s, sS_ne (a := 10) (by omega), h10, nI_1]
    by_cases cw : g = w0
    · have emo : mo N w0 g = N (8 + 12 * g + 4) := if_pos cw
      rw [if_pos (by rw [cw]), lt1_mk, wr_nI (by omega) (by omega), ob_s, sS_st, rd_nI (by omega) (by omega), ob_s, rd_nI (by omega) (by omega), ob_s, sS_ne (a := 6) (by omega), h6, ← emo, show sS V (upd S g (jmin y (mo N w0 g))) 5 g = jmin y (mo N w0 g) from upd_eq]
      exact tail _
    · have emo : mo N w0 g = jmin (N (8 + 12 * g + 4)) (N (8 + 12 * g + 3)) := if_neg cw
      rw [if_neg (fun e => cw ((nI_eq (by omega) (by omega)).mp e)), rd_nI (by omega) (by omega), ob_s, sS_ne (a := 9) (by omega), h9, lt1_mk, lt1_mk, ← emo, wr_nI (by omega) (by omega), ob_s, sS_st, rd_nI (by omega) (by omega), ob_s, rd_nI (by omega) (by omega), ob_s, sS_ne (a := 6) (by omega), h6, show sS V (upd S g (jmin y (mo N w0 g))) 5 g = jmin y (mo N w0 g) from upd_eq]
      exact tail _
def S0 (V : FV) : Nat → Int32 := fillF 12 (V 5) 0
theorem fill_sS {V : FV} : fillV V 5 12 0 = sS V (S0 V) := rfl
theorem share_eq {n d q : Nat} {T : Int} {V : FV} {N : Nat → Int32} (hO : Ok n d q T V N) {w0 : Nat} (hw : w0 < n) {b : Int32} : f_X0_shareOut V (nI w0) b = some (b - shl N w0 12 w0 b, sS V (shr N w0 12 w0 b (S0 V))) := by
  have hb := hO.2.1
  obtain ⟨m, hm⟩ := FUEL_ge (k := 13) (by omega)
  unfold f_X0_shareOut
  rw [lt1_mk, fill_sS, hm]
  exact share_loop hO (by omega) 12 0 w0 m b (S0 V) (by omega) (by omega) hw
/-- how much is left -/
theorem shl_toInt {N : Nat → Int32} {w0 n : Nat} (hn : n ≤ 12) (hW : ∀ w, w < n → WW N w) : ∀ f g (y : Int32), g < f → g < n → 0 ≤ y.toInt → (shl N w0 f g y).toInt = y.toInt - min y.toInt (abl N w0 f g) := by
  intro f
  induction f with
  | zero => intro g y h; exact absurd h (by omega)
  | succ f ih =>
    intro g y hgf hg hy
    have h1 := mo_rng (w0 := w0) (hW g hg)
    have hyr := fb_rng y
    have hx : (jmin y (mo N w0 g)).toInt = min y.toInt (mo N w0 g).toInt := jmin_toInt _ _
    have hs : (y - jmin y (mo N w0 g)).toInt = y.toInt - min y.toInt (mo N w0 g).toInt := by rw [fb_subI (by omega) (by omega), hx]
    show (if g = 0 then y - jmin y (mo N w0 g) else shl N w0 f (abv N g) (y - jmin y (mo N w0 g))).toInt = y.toInt - min y.toInt ((mo N w0 g).toInt + (if g = 0 then 0 else abl N w0 f (abv N g)))
    by_cases c : g = 0
    · rw [if_pos c, if_pos c, hs]; omega
    · rw [if_neg c, if_neg c]
      have e2 := (abv_eq (hW g hg) (by omega) (by omega)).2
      have h2 := abl_rng (w0 := w0) hn hW f (abv N g) (by omega)
      rw [ih (abv N g) _ (by omega) (by omega) (by omega), hs]
      omega
/-- the class's answer of shareOut is the least of what is wanted and what can be drawn -/
theorem share_toInt {n d q : Nat} {T : Int} {V : FV} {N : Nat → Int32} (hO : Ok n d q T V N) {w0 : Nat} (hw : w0 < n) {b : Int32} (hb0 : 0 ≤ b.toInt) : (b - shl N w0 12 w0 b).toInt = min b.toInt (abl N w0 12 w0) := by
  have hb := hO.2.1
  have h1 := shl_toInt (w0 := w0) hb.1 hO.2.2.2.2.2.1 12 w0 b (by omega) hw hb0
  have h2 := abl_rng (w0 := w0) hb.1 hO.2.2.2.2.2.1 12 w0 hw
  have h3 := fb_rng b
  rw [fb_subI (by omega) (by omega), h1]
  omega
