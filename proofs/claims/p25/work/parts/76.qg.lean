/-! ===== draws ===== -/
def z0 : NN := fun _ => 0
theorem z0_0 : ∀ h, h < 12 → z0 h = 0 := fun _ _ => rfl
theorem shr_ext {N S S' : NN} {w0 n : Nat} (hn : n ≤ 12) (hW : ∀ w, w < n → WW N w) (hS : ∀ h, h < 12 → S h = S' h) : ∀ f g (y : Int32), g < n → ∀ h, h < 12 → shr N w0 f g y S h = shr N w0 f g y S' h := by
  have key : ∀ f g (y : Int32) (S S' : NN), (∀ h, h < 12 → S h = S' h) → g < n → ∀ h, h < 12 → shr N w0 f g y S h = shr N w0 f g y S' h := by
    intro f
    induction f with
    | zero => intro g y S S' hS _ h hh; exact hS h hh
    | succ f ih =>
      intro g y S S' hS hg h hh
      have hu : ∀ (x : Int32) h, h < 12 → upd S g x h = upd S' g x h := by
        intro x h hh
        rw [upd_at, upd_at, hS h hh]
      show (if g = 0 then upd S g (jmin y (mo N w0 g)) else shr N w0 f (abv N g) (y - jmin y (mo N w0 g)) (upd S g (jmin y (mo N w0 g)))) h = (if g = 0 then upd S' g (jmin y (mo N w0 g)) else shr N w0 f (abv N g) (y - jmin y (mo N w0 g)) (upd S' g (jmin y (mo N w0 g)))) h
      by_cases c : g = 0
      · rw [if_pos c, if_pos c]; exact hu _ h hh
      · rw [if_neg c, if_neg c]
        exact ih _ _ _ _ (hu _) (by have := (abv_eq (hW g hg) (by omega) (by omega)).2; omega) h hh
  exact fun f g y hg h hh => key f g y S S' hS hg h hh
theorem shr_burst {N S : NN} {w0 n : Nat} (hn : n ≤ 12) (hW : ∀ w, w < n → WW N w) : ∀ f g (y : Int32) (S : NN), g < n → (∀ h, h < n → h ≠ w0 → (S h).toInt ≤ (N (8 + 12 * h + 3)).toInt) → ∀ h, h < n → h ≠ w0 → (shr N w0 f g y S h).toInt ≤ (N (8 + 12 * h + 3)).toInt := by
  intro f
  induction f with
  | zero => intro g y S _ hS; exact hS
  | succ f ih =>
    intro g y S hg hS h hh hne
    have hu : ∀ h, h < n → h ≠ w0 → (upd S g (jmin y (mo N w0 g)) h).toInt ≤ (N (8 + 12 * h + 3)).toInt := by
      intro h hh hne
      rw [upd_at]
      by_cases c : h = g
      · subst c
        rw [if_pos rfl, jmin_toInt]
        have : (mo N w0 h).toInt ≤ (N (8 + 12 * h + 3)).toInt := by
          unfold mo
          rw [if_neg hne, jmin_toInt]; omega
        omega
      · rw [if_neg c]; exact hS h hh hne
    show ((if g = 0 then upd S g (jmin y (mo N w0 g)) else shr N w0 f (abv N g) (y - jmin y (mo N w0 g)) (upd S g (jmin y (mo N w0 g)))) h).toInt ≤ _
    by_cases c : g = 0
    · rw [if_pos c]; exact hu h hh hne
    · rw [if_neg c]
      exact ih _ _ _ (by have := (abv_eq (hW g hg) (by omega) (by omega)).2; omega) hu h hh hne
theorem shr_own {N S : NN} {w0 n : Nat} (hn : n ≤ 12) (hW : ∀ w, w < n → WW N w) (hw : w0 < n) {b : Int32} : shr N w0 12 w0 b S w0 = jmin b (N (8 + 12 * w0 + 4)) := by
  have em : mo N w0 w0 = N (8 + 12 * w0 + 4) := if_pos rfl
  rw [← em]
  show (if w0 = 0 then upd S w0 (jmin b (mo N w0 w0)) else shr N w0 11 (abv N w0) (b - jmin b (mo N w0 w0)) (upd S w0 (jmin b (mo N w0 w0)))) w0 = _
  by_cases c : w0 = 0
  · rw [if_pos c, upd_eq]
  · have e2 := (abv_eq (hW w0 hw) (by omega) (by omega)).2
    rw [if_neg c, shr_hi hn hW 11 _ _ _ w0 (by omega) e2, upd_eq]
theorem shl_0 {N : NN} {w0 n : Nat} (hn : n ≤ 12) (hW : ∀ w, w < n → WW N w) (hw : w0 < n) {b : Int32} (hb : 0 ≤ b.toInt) (hp : b.toInt ≤ abl N w0 12 w0) : shl N w0 12 w0 b = 0 := by
  rw [i_eq, shl_toInt hn hW 12 w0 b (by omega) hw hb, i_0]
  omega
theorem sm_z0 : ∀ k, sm z0 k = 0 := by
  intro k
  induction k with
  | zero => rfl
  | succ k ih => show sm z0 k + z0 k = 0; rw [ih]; rfl
theorem shr_all {N : NN} {w0 n : Nat} (hn : n ≤ 12) (hW : ∀ w, w < n → WW N w) (hw : w0 < n) {b : Int32} (hb : 0 ≤ b.toInt) (hp : b.toInt ≤ abl N w0 12 w0) : sm (shr N w0 12 w0 b z0) n = b := by
  rw [shr_sum hn hW 12 w0 b z0 (by omega) hw (fun _ _ => rfl), shl_0 hn hW hw hb hp, sm_z0]
  grind
theorem tl_val {N : NN} {w0 n : Nat} (hn : n ≤ 12) (hW : ∀ w, w < n → WW N w) (hw : w0 < n) {b : Int32} (hb : 0 ≤ b.toInt) (hp : b.toInt ≤ abl N w0 12 w0) : tl N w0 12 w0 b 0 = b - jmin b (N (8 + 12 * w0 + 4)) := by
  have em : mo N w0 w0 = N (8 + 12 * w0 + 4) := if_pos rfl
  have h0 := shl_0 hn hW hw hb hp
  rw [← em]
  have h0 : (if w0 = 0 then b - jmin b (mo N w0 w0) else shl N w0 11 (abv N w0) (b - jmin b (mo N w0 w0))) = 0 := h0
  show (if w0 = 0 then 0 + (if w0 = w0 then 0 else jmin b (mo N w0 w0)) else tl N w0 11 (abv N w0) (b - jmin b (mo N w0 w0)) (0 + (if w0 = w0 then 0 else jmin b (mo N w0 w0)))) = _
  rw [if_pos (rfl : w0 = w0)]
  by_cases c : w0 = 0
  · rw [if_pos c] at h0
    rw [if_pos c, h0]
    rfl
  · have e2 := (abv_eq (hW w0 hw) (by omega) (by omega)).2
    rw [if_neg c] at h0
    rw [if_neg c, tl_eq hn hW 11 (abv N w0) _ _ (by omega) (by omega) e2, h0]
    grind
section DK
variable {V : FV} {N : NN}
theorem share_K2 (h : K2 V N) {w : Nat} (hw : w < nW N) {b : Int32} (hb : 0 ≤ b.toInt) : ∃ r V', f_X0_shareOut V (nI w) b = some (r, V') ∧ r.toInt = min b.toInt (abl N w 12 w) ∧ V' = sS V (shr N w 12 w b (S0 V)) ∧ K2 V' N :=
  ⟨_, _, share_eq h.ok hw, share_toInt h.ok hw hb, rfl, h.sS⟩
theorem draw_K2 (h : K2 V N) {w : Nat} (hw : w < nW N) {b : Int32} (h1 : 1 ≤ b.toInt) (h2 : b.toInt ≤ 999) (hp : b.toInt ≤ abl N w 12 w) : ∃ V', f_X0_takeDraw V (nI w) b = some (b - jmin b (N (8 + 12 * w + 4)), V') ∧ K2 V' (dwN N (nW N) w b z0) := by
  obtain ⟨hR, hWf, hC, hS, hQ⟩ := id h
  have hb := hWf.1
  have hW := hWf.2.2.2.2.1
  obtain ⟨l, V', e1, e2, e3, e4, e5, e6⟩ := take_exp (Vm := ZV) h.ok hw (b := b) (by omega) hp
  have tk := takes_eq (Vm := ZV) hWf hw (b := b) (S := z0) z0_0
  have eN := sM_inj (some_snd (e2.symm.trans tk))
  have el : l = tl N w 12 w b 0 := some_fst (e2.symm.trans tk)
  rw [eN] at e3 e4 e5
  have e : f_X0_takeDraw V (nI w) b = some (l, V') := by
    unfold f_X0_takeDraw
    rw [x0_isWell_y hR.1.1 hb.1 hw, ob_s, if_neg n10, areB_eq, ob_s]
    rcases bk_case b with hk | ⟨hk, -, -⟩
    · exfalso
      unfold bk at hk
      have i1 : (1 : Int32).toInt = 1 := rfl
      have i9 : (999 : Int32).toInt = 999 := rfl
      rw [if_neg (by rw [i_lt, i1]; omega), if_neg (by rw [i_lt, i9]; omega)] at hk
      exact n10 hk
    · have hs := share_toInt h.ok hw (b := b) (by omega)
      rw [hk, if_neg n10, share_eq h.ok hw, b2_mk, if_pos (by rw [i_eq, hs]; omega), e1, b2_mk]
  refine ⟨V', by rw [e, el, tl_val hb.1 hW hw (by omega) hp], K2.of e3.1 ⟨e3.2, ?_, (SS_iff e3.1 hb.1).mp (draw_SV e ((SS_iff hR hb.1).mpr hS)), ?_⟩⟩
  · rw [show dwN N (nW N) w b z0 0 = N 0 from e5 0 (by omega)]
    exact e4 _ hC
  · exact hQ.congr (by rw [show dwN N (nW N) w b z0 0 = N 0 from e5 0 (by omega)]; exact Int.le_refl _) (fun i hi => e5 _ (by omega))
theorem draw_no (h : K2 V N) {w : Nat} (hw : w < nW N) {b : Int32} (h1 : 1 ≤ b.toInt) (h2 : b.toInt ≤ 999) (hp : abl N w 12 w < b.toInt) : ∃ V', f_X0_takeDraw V (nI w) b = some (-2, V') ∧ K2 V' N := by
  have hs := share_toInt h.ok hw (b := b) (by omega)
  refine ⟨sS V (shr N w 12 w b (S0 V)), ?_, h.sS⟩
  unfold f_X0_takeDraw
  rw [x0_isWell_y h.1.1.1 h.b.1 hw, ob_s, if_neg n10, areB_eq, ob_s]
  rcases bk_case b with hk | ⟨hk, -, -⟩
  · exfalso
    unfold bk at hk
    have i1 : (1 : Int32).toInt = 1 := rfl
    have i9 : (999 : Int32).toInt = 999 := rfl
    rw [if_neg (by rw [i_lt, i1]; omega), if_neg (by rw [i_lt, i9]; omega)] at hk
    exact n10 hk
  · rw [hk, if_neg n10, share_eq h.ok hw, b2_mk, if_neg (by rw [i_eq, hs]; omega)]
theorem isW_n (h : K2 V N) {p : Int32} (hp : p < 0 ∨ nI (nW N) ≤ p) : f_X0_isWell V p = some 0 := x0_isWell_n h.1.1.1 hp
theorem isW_y (h : K2 V N) {w : Nat} (hw : w < nW N) : f_X0_isWell V (nI w) = some 1 := x0_isWell_y h.1.1.1 h.b.1 hw
theorem draw_bad (h : K2 V N) {p b : Int32} (hp : p < 0 ∨ nI (nW N) ≤ p) : f_X0_takeDraw V p b = some (-1, V) := by
  unfold f_X0_takeDraw
  rw [isW_n h hp, ob_s, if_pos rfl]
theorem draw_bad2 (h : K2 V N) {w : Nat} (hw : w < nW N) {b : Int32} (hb : b.toInt < 1 ∨ 999 < b.toInt) : f_X0_takeDraw V (nI w) b = some (-1, V) := by
  unfold f_X0_takeDraw
  rw [isW_y h hw, ob_s, if_neg n10, areB_eq, ob_s]
  rcases bk_case b with hk | ⟨hk, h1, h2⟩
  · rw [hk, if_pos rfl]
  · omega
theorem dw_6 (h : K2 V N) {M : NN} {V' : FV} (h' : K2 V' M) {b : Int32} (e : M 6 = N 6 + b) : suN M 8 (nW M) + suN M 9 (nW M) = (suN N 8 (nW N) + suN N 9 (nW N)) + b := by
  have a := h.2.1.2.2.2.2.2.2.2.2
  have a' := h'.2.1.2.2.2.2.2.2.2.2
  rw [← ds_su, ← ds_su, ← a, ← a', e]
end DK
section DA
variable {N : NN} {hs : List NN} {tx : List Nat} {v1 v2 v3 : FV} {G : Nat → FV}
theorem able_go (h : AS N hs tx v1 G v3) {w : Nat} (hw : w < nW N) : Go (f_X3_able v1 v2 G v3 (nI w)) (fun t => t.1.toInt = abl N w 12 w ∧ AS N hs tx t.2.1 t.2.2.2.1 t.2.2.2.2) := by
  have i12 : (12000 : Int32).toInt = 12000 := rfl
  obtain ⟨r, V', e, hr, -, hK⟩ := share_K2 h.1 hw (b := 12000) (by omega)
  have hrg := abl_rng (w0 := w) h.1.b.1 h.1.2.1.2.2.2.2.1 12 w hw
  unfold f_X3_able
  rw [isW_y h.1 hw, ob_s, if_neg n10, e, b2_mk]
  exact Go.ret ⟨by rw [hr, i12]; omega, h.field hK⟩
theorem able_bad (h : AS N hs tx v1 G v3) {p : Int32} (hp : p < 0 ∨ nI (nW N) ≤ p) : Go (f_X3_able v1 v2 G v3 p) (fun t => t.1 = -1 ∧ AS N hs tx t.2.1 t.2.2.2.1 t.2.2.2.2) := by
  unfold f_X3_able
  rw [isW_n h.1 hp, ob_s, if_pos rfl]
  exact Go.ret ⟨rfl, h⟩
theorem bk_y {b : Int32} (h1 : 1 ≤ b.toInt) (h2 : b.toInt ≤ 999) : bk b = 1 := by
  have i1 : (1 : Int32).toInt = 1 := rfl
  have i9 : (999 : Int32).toInt = 999 := rfl
  unfold bk
  rw [if_neg (by rw [i_lt, i1]; omega), if_neg (by rw [i_lt, i9]; omega)]
theorem gives_go (h : AS N hs tx v1 G v3) {w g : Nat} (hw : w < nW N) (hg : g < nW N) {b : Int32} (h1 : 1 ≤ b.toInt) (h2 : b.toInt ≤ 999) (hp : b.toInt ≤ abl N w 12 w) : Go (f_X3_gives v1 v2 G v3 (nI w) b (nI g)) (fun t => t.1 = shr N w 12 w b z0 g ∧ AS N hs tx t.2.1 t.2.2.2.1 t.2.2.2.2) := by
  have hb := h.1.b
  have hs := share_toInt h.1.ok hw (b := b) (by omega)
  unfold f_X3_gives
  rw [isW_y h.1 hw, ob_s, if_neg n10, areB_eq, ob_s, bk_y h1 h2, if_neg n10, isW_y h.1 hg, ob_s, if_neg n10, share_eq h.1.ok hw, b2_mk, if_pos (by rw [i_eq, hs]; omega), rd_nI (by omega) (by omega), ob_s]
  exact Go.ret ⟨shr_ext hb.1 h.1.2.1.2.2.2.2.1 S0_0 12 w b hw g (by omega), h.field h.1.sS⟩
theorem gives_no (h : AS N hs tx v1 G v3) {w g : Nat} (hw : w < nW N) (hg : g < nW N) {b : Int32} (h1 : 1 ≤ b.toInt) (h2 : b.toInt ≤ 999) (hp : abl N w 12 w < b.toInt) : Go (f_X3_gives v1 v2 G v3 (nI w) b (nI g)) (fun t => t.1 = -2 ∧ AS N hs tx t.2.1 t.2.2.2.1 t.2.2.2.2) := by
  have hs := share_toInt h.1.ok hw (b := b) (by omega)
  unfold f_X3_gives
  rw [isW_y h.1 hw, ob_s, if_neg n10, areB_eq, ob_s, bk_y h1 h2, if_neg n10, isW_y h.1 hg, ob_s, if_neg n10, share_eq h.1.ok hw, b2_mk, if_neg (by rw [i_eq, hs]; omega)]
  exact Go.ret ⟨rfl, h.field h.1.sS⟩
theorem gives_bad1 (h : AS N hs tx v1 G v3) {p b g : Int32} (hp : p < 0 ∨ nI (nW N) ≤ p) : Go (f_X3_gives v1 v2 G v3 p b g) (fun t => t.1 = -1 ∧ AS N hs tx t.2.1 t.2.2.2.1 t.2.2.2.2) := by
  unfold f_X3_gives
  rw [isW_n h.1 hp, ob_s, if_pos rfl]
  exact Go.ret ⟨rfl, h⟩
theorem gives_bad3 (h : AS N hs tx v1 G v3) {w : Nat} (hw : w < nW N) {b g : Int32} (h1 : 1 ≤ b.toInt) (h2 : b.toInt ≤ 999) (hp : g < 0 ∨ nI (nW N) ≤ g) : Go (f_X3_gives v1 v2 G v3 (nI w) b g) (fun t => t.1 = -1 ∧ AS N hs tx t.2.1 t.2.2.2.1 t.2.2.2.2) := by
  unfold f_X3_gives
  rw [isW_y h.1 hw, ob_s, if_neg n10, areB_eq, ob_s, bk_y h1 h2, if_neg n10, isW_n h.1 hp, ob_s, if_pos rfl]
  exact Go.ret ⟨rfl, h⟩
/-! draw, as a call -/
theorem drawc_go (h : AS N hs tx v1 G v3) {w : Nat} (hw : w < nW N) {b : Int32} (h1 : 1 ≤ b.toInt) (h2 : b.toInt ≤ 999) (hp : b.toInt ≤ abl N w 12 w) : Go (f_X3_draw v1 v2 G v3 (nI w) b) (fun t => t.1 = b - jmin b (N (8 + 12 * w + 4)) ∧ AS (dwN N (nW N) w b z0) ((N :: hs).take 4) tx t.2.1 t.2.2.2.1 t.2.2.2.2) := by
  have hw4 := (h.1.2.1.2.2.2.2.1 w hw).2.2.2.2.2
  exact chg_ok (opC := fun V => f_X0_takeDraw V (nI w) b) h (fun e => by
    rw [i_lt, i_0, fb_subI (by rw [jmin_toInt]; omega) (by rw [jmin_toInt]; omega), jmin_toInt] at e
    omega) (draw_K2 h.1 hw h1 h2 hp)
theorem drawc_no (h : AS N hs tx v1 G v3) {w : Nat} (hw : w < nW N) {b : Int32} (h1 : 1 ≤ b.toInt) (h2 : b.toInt ≤ 999) (hp : abl N w 12 w < b.toInt) : Go (f_X3_draw v1 v2 G v3 (nI w) b) (fun t => t.1 = -2 ∧ AS N hs tx t.2.1 t.2.2.2.1 t.2.2.2.2) :=
  chg_err (opC := fun V => f_X0_takeDraw V (nI w) b) h (by decide) (draw_no h.1 hw h1 h2 hp)
theorem drawc_bad (h : AS N hs tx v1 G v3) {p b : Int32} (hp : p < 0 ∨ nI (nW N) ≤ p) : Go (f_X3_draw v1 v2 G v3 p b) (fun t => t.1 = -1 ∧ AS N hs tx t.2.1 t.2.2.2.1 t.2.2.2.2) :=
  chg_err (opC := fun V => f_X0_takeDraw V p b) h (by decide) ⟨v1, draw_bad h.1 hp, h.1⟩
theorem drawc_bad2 (h : AS N hs tx v1 G v3) {w : Nat} (hw : w < nW N) {b : Int32} (hb : b.toInt < 1 ∨ 999 < b.toInt) : Go (f_X3_draw v1 v2 G v3 (nI w) b) (fun t => t.1 = -1 ∧ AS N hs tx t.2.1 t.2.2.2.1 t.2.2.2.2) :=
  chg_err (opC := fun V => f_X0_takeDraw V (nI w) b) h (by decide) ⟨v1, draw_bad2 h.1 hw hb, h.1⟩
end DA
