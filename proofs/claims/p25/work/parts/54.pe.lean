/-! ===== draws: what is taken ===== -/
def PW (N : Nat → Int32) (w0 n : Nat) (S : Nat → Int32) : Nat → Int32 := fun j =>
  if 8 ≤ j ∧ j < 8 + 12 * n then (if (j - 8) % 12 = 4 then N j - S ((j - 8) / 12) else if (j - 8) % 12 = 8 then (if (j - 8) / 12 = w0 then N j + S ((j - 8) / 12) else N j) else if (j - 8) % 12 = 9 then (if (j - 8) / 12 = w0 then N j else N j + S ((j - 8) / 12)) else N j) else N j
theorem PW_w {N S : Nat → Int32} {w0 n h k : Nat} (hh : h < n) (hk : k < 12) : PW N w0 n S (8 + 12 * h + k) = if k = 4 then N (8 + 12 * h + k) - S h else if k = 8 then (if h = w0 then N (8 + 12 * h + k) + S h else N (8 + 12 * h + k)) else if k = 9 then (if h = w0 then N (8 + 12 * h + k) else N (8 + 12 * h + k) + S h) else N (8 + 12 * h + k) := by
  unfold PW
  rw [if_pos (by omega), show (8 + 12 * h + k - 8) % 12 = k by omega, show (8 + 12 * h + k - 8) / 12 = h by omega]
theorem PW_far {N S : Nat → Int32} {w0 n j : Nat} (h : j < 8 ∨ 8 + 12 * n ≤ j) : PW N w0 n S j = N j := by
  unfold PW
  rw [if_neg (by omega)]
theorem PW_same {N S : Nat → Int32} {w0 n h k : Nat} (hh : h < n) (hk : k < 12) (hS : S h = 0) : PW N w0 n S (8 + 12 * h + k) = N (8 + 12 * h + k) := by
  rw [PW_w hh hk, hS, Int32.sub_zero, Int32.add_zero]
  by_cases c4 : k = 4
  · rw [if_pos c4]
  · rw [if_neg c4]
    by_cases c8 : k = 8
    · rw [if_pos c8]
      by_cases c : h = w0
      · rw [if_pos c]
      · rw [if_neg c]
    · rw [if_neg c8]
      by_cases c9 : k = 9
      · rw [if_pos c9]
        by_cases c : h = w0
        · rw [if_pos c]
        · rw [if_neg c]
      · rw [if_neg c9]
theorem PW_keep {N S : Nat → Int32} {w0 n h k : Nat} (hh : h < n) (hk : k < 12) (h4 : k ≠ 4) (h8 : k ≠ 8) (h9 : k ≠ 9) : PW N w0 n S (8 + 12 * h + k) = N (8 + 12 * h + k) := by
  rw [PW_w hh hk, if_neg h4, if_neg h8, if_neg h9]
theorem PW_congr {N S S' : Nat → Int32} {w0 n : Nat} (h : ∀ g, g < n → S g = S' g) : PW N w0 n S = PW N w0 n S' := by
  funext j
  unfold PW
  by_cases c : 8 ≤ j ∧ j < 8 + 12 * n
  · rw [if_pos c, if_pos c, h ((j - 8) / 12) (by omega)]
  · rw [if_neg c, if_neg c]
theorem PW_0 {N S : Nat → Int32} {w0 n : Nat} (h : ∀ g, g < n → S g = 0) : PW N w0 n S = N := by
  funext j
  by_cases c : 8 ≤ j ∧ j < 8 + 12 * n
  · rw [show j = 8 + 12 * ((j - 8) / 12) + (j - 8) % 12 by omega]
    exact PW_same (by omega) (by omega) (h _ (by omega))
  · exact PW_far (by omega)
theorem tkd_w {M : Nat → Int32} {w0 g h k : Nat} {x : Int32} (hk : k < 12) : tkd w0 g x M (8 + 12 * h + k) = if h = g ∧ k = 4 then M (8 + 12 * h + k) + -x else if h = g ∧ k = (if g = w0 then 8 else 9) then M (8 + 12 * h + k) + x else M (8 + 12 * h + k) := by
  unfold tkd
  have hr : (if g = w0 then 8 else 9) < 12 := by split <;> omega
  have hr4 : (if g = w0 then 8 else 9) ≠ 4 := by split <;> omega
  rw [ad_w hr hk, ad_w (by omega) hk]
  by_cases c4 : h = g ∧ k = 4
  · rw [if_pos c4, if_neg (fun e => hr4 (by rw [← e.2, c4.2])), if_pos c4]
  · rw [if_neg c4, if_neg c4]
theorem tkd_far {M : Nat → Int32} {w0 g j n : Nat} {x : Int32} (hg : g < n) (h : j < 8 ∨ 8 + 12 * n ≤ j) : tkd w0 g x M j = M j := by
  unfold tkd
  rw [ad_ne (by split <;> omega), ad_ne (by omega)]
theorem PW_step {N S : Nat → Int32} {w0 n g : Nat} {x : Int32} (hg : g < n) (hS : S g = 0) : tkd w0 g x (PW N w0 n S) = PW N w0 n (upd S g x) := by
  funext j
  by_cases c : 8 ≤ j ∧ j < 8 + 12 * n
  · obtain ⟨h, k, hh, hk, rfl⟩ : ∃ h k, h < n ∧ k < 12 ∧ j = 8 + 12 * h + k := ⟨(j - 8) / 12, (j - 8) % 12, by omega, by omega, by omega⟩
    rw [tkd_w hk, PW_w hh hk, PW_w hh hk]
    by_cases ch : h = g
    · subst ch
      rw [hS, upd_eq, Int32.sub_zero, Int32.add_zero]
      by_cases c4 : k = 4
      · rw [if_pos ⟨rfl, c4⟩, if_pos c4, if_pos c4, Int32.sub_eq_add_neg]
      · rw [if_neg (fun e => c4 e.2), if_neg c4, if_neg c4]
        by_cases cw : h = w0
        · rw [if_pos cw, if_pos cw, if_pos cw, if_pos cw]
          by_cases c8 : k = 8
          · rw [if_pos ⟨rfl, c8⟩, if_pos c8, if_pos c8]
          · rw [if_neg (fun e => c8 e.2), if_neg c8, if_neg c8]
        · rw [if_neg cw, if_neg cw, if_neg cw, if_neg cw]
          by_cases c9 : k = 9
          · rw [if_pos ⟨rfl, c9⟩, if_neg (by omega), if_pos c9, if_neg (by omega), if_pos c9]
          · rw [if_neg (fun e => c9 e.2), if_neg c9, if_neg c9]
    · rw [if_neg (fun e => ch e.1), if_neg (fun e => ch e.1), upd_ne ch]
  · rw [tkd_far hg (by omega), PW_far (by omega), PW_far (by omega)]
theorem part_eq {V : FV} {w0 g : Nat} {y : Int32} (hw : w0 < 12) (hg : g < 12) : f_X4_part V (nI w0) (nI g) y = some (jmin y (mo (V 1) w0 g)) := by
  unfold f_X4_part mo
  rw [show (4 : Int32) = nI 4 from rfl, show (3 : Int32) = nI 3 from rfl, of_eq hg (by omega), of_eq hg (by omega)]
  simp only [ob_s, least_eq]
  by_cases c : g = w0
  · subst c; rw [if_pos rfl, if_pos rfl]
  · rw [if_neg (fun e => c ((nI_eq (by omega) (by omega)).mp e).symm), if_neg c]
theorem takes_loop {n d q : Nat} {T : Int} {Vm : FV} {N : Nat → Int32} (hW : Wf n d q T N) {w0 : Nat} (hw0 : w0 < 12) {b : Int32} : ∀ (f g m : Nat) (y l : Int32) (S : Nat → Int32), g < f → g < n → (∀ h, h ≤ g → S h = 0) → f_X4_takes_L8 (m + f + 1) (nI w0) b y l (nI g) (sM Vm (PW N w0 n S)) = some (tl N w0 f g y l, sM Vm (upd (PW N w0 n (shr N w0 f g y S)) 6 (N 6 + b))) := by
  intro f
  induction f with
  | zero => intro g m y l S h; exact absurd h (by omega)
  | succ f ih =>
    intro g m y l S hgf hgn hS
    have hb := hW.1
    have hWg := hW.2.2.2.2.1 g hgn
    have emo : mo (sM Vm (PW N w0 n S) 1) w0 g = mo N w0 g := by
      unfold mo
      rw [sM_1, PW_same hgn (by omega) (hS g (Nat.le_refl g)), PW_same hgn (by omega) (hS g (Nat.le_refl g))]
    show (if nI g < 0 then _ else ((f_X4_part (sM Vm (PW N w0 n S)) (nI w0) (nI g) y).bind fun x3 => ((f_X4_adds (sM Vm (PW N w0 n S)) (nI g) 4 (-x3)).bind fun V4 => (if nI g = nI w0 then ((f_X4_adds V4 (nI g) 8 x3).bind fun V10 => (if nI g = nI w0 then ((f_X4_of V10 (nI g) 0).bind fun x13 => (f_X4_takes_L8 (m + f + 1) (nI w0) b (y - x3) (l + 0) x13 V10)) else ((f_X4_of V10 (nI g) 0).bind fun x12 => (f_X4_takes_L8 (m + f + 1) (nI w0) b (y - x3) (l + x3) x12 V10)))) else ((f_X4_adds V4 (nI g) 9 x3).bind fun V6 => (if nI g = nI w0 then ((f_X4_of V6 (nI g) 0).bind fun x9 => (f_X4_takes_L8 (m + f + 1) (nI w0) b (y - x3) (l + 0) x9 V6)) else ((f_X4_of V6 (nI g) 0).bind fun x8 => (f_X4_takes_L8 (m + f + 1) (nI w0) b (y - x3) (l + x3) x8 V6))))))))
      = some (if g = 0 then l + (if g = w0 then 0 else jmin y (mo N w0 g)) else tl N w0 f (abv N g) (y - jmin y (mo N w0 g)) (l + (if g = w0 then 0 else jmin y (mo N w0 g))), sM Vm (upd (PW N w0 n (if g = 0 then upd S g (jmin y (mo N w0 g)) else shr N w0 f (abv N g) (y - jmin y (mo N w0 g)) (upd S g (jmin y (mo N w0 g))))) 6 (N 6 + b)))
    rw [if_neg (nI_pos (by omega)), part_eq hw0 (by omega), ob_s, emo, show (4 : Int32) = nI 4 from rfl, adds_eqM (by omega) (by omega), ob_s]
    generalize jmin y (mo N w0 g) = x
    have hstep : ad (ad (PW N w0 n S) g 4 (-x)) g (if g = w0 then 8 else 9) x = PW N w0 n (upd S g x) := PW_step hgn (hS g (Nat.le_refl g))
    have h0 : f_X4_of (sM Vm (PW N w0 n (upd S g x))) (nI g) 0 = some (N (8 + 12 * g)) := by
      rw [show (0 : Int32) = nI 0 from rfl, of_eqM (by omega) (by omega), PW_keep hgn (by omega) (by omega) (by omega) (by omega)]; rfl
    have tail : ∀ l' : Int32, f_X4_takes_L8 (m + f + 1) (nI w0) b (y - x) l' (N (8 + 12 * g)) (sM Vm (PW N w0 n (upd S g x))) = some (if g = 0 then l' else tl N w0 f (abv N g) (y - x) l', sM Vm (upd (PW N w0 n (if g = 0 then upd S g x else shr N w0 f (abv N g) (y - x) (upd S g x))) 6 (N 6 + b))) := by
      intro l'
      by_cases c : g = 0
      · rw [if_pos c, if_pos c, hWg.1 c]
        show some (l', st (sM Vm (PW N w0 n (upd S g x))) 1 6 (PW N w0 n (upd S g x) 6 + b)) = _
        rw [st_sM2, PW_far (j := 6) (by omega)]
      · rw [if_neg c, if_neg c]
        obtain ⟨e1, e2⟩ := abv_eq hWg (by omega) (by omega)
        rw [e1]
        exact ih (abv N g) m (y - x) l' (upd S g x) (by omega) (by omega) (fun h hh => by rw [upd_ne (by omega)]; exact hS h (by omega))
    by_cases cw : g = w0
    · rw [if_pos cw] at hstep
      rw [if_pos (by rw [cw]), show (8 : Int32) = nI 8 from rfl, adds_eqM (by omega) (by omega), ob_s, hstep, if_pos (by rw [cw]), h0, ob_s, if_pos cw]
      exact tail _
    · rw [if_neg cw] at hstep
      have cn : ¬ nI g = nI w0 := fun e => cw ((nI_eq (by omega) (by omega)).mp e)
      rw [if_neg cn, show (9 : Int32) = nI 9 from rfl, adds_eqM (by omega) (by omega), ob_s, hstep, if_neg cn, h0, ob_s, if_neg cw]
      exact tail _
theorem takes_eq {n d q : Nat} {T : Int} {Vm : FV} {N : Nat → Int32} (hW : Wf n d q T N) {w0 : Nat} (hw : w0 < n) {b : Int32} {S : Nat → Int32} (hS : ∀ h, h < 12 → S h = 0) : f_X4_takes (sM Vm N) (nI w0) b = some (tl N w0 12 w0 b 0, sM Vm (upd (PW N w0 n (shr N w0 12 w0 b S)) 6 (N 6 + b))) := by
  have hb := hW.1
  obtain ⟨m, hm⟩ := FUEL_ge (k := 13) (by omega)
  have e := takes_loop (Vm := Vm) hW (w0 := w0) (by omega) (b := b) 12 w0 m b 0 S (by omega) hw (fun h hh => hS h (by omega))
  rw [PW_0 (fun g hg => hS g (by omega))] at e
  unfold f_X4_takes
  rw [hm]
  exact e
/-! sums -/
def sm (S : Nat → Int32) : Nat → Int32
  | 0 => 0
  | k + 1 => sm S k + S k
def sx (S : Nat → Int32) (w0 : Nat) : Nat → Int32
  | 0 => 0
  | k + 1 => sx S w0 k + (if k = w0 then 0 else S k)
theorem sm_keep {S : Nat → Int32} {g : Nat} {x : Int32} : ∀ k, k ≤ g → sm (upd S g x) k = sm S k := by
  intro k
  induction k with
  | zero => intro _; rfl
  | succ k ih =>
    intro h
    show sm (upd S g x) k + upd S g x k = sm S k + S k
    rw [ih (by omega), upd_ne (by omega)]
theorem sm_upd {S : Nat → Int32} {g : Nat} {x : Int32} (hS : S g = 0) : ∀ k, g < k → sm (upd S g x) k = sm S k + x := by
  intro k
  induction k with
  | zero => intro h; exact absurd h (by omega)
  | succ k ih =>
    intro h
    show sm (upd S g x) k + upd S g x k = sm S k + S k + x
    by_cases c : g = k
    · subst c
      rw [sm_keep g (Nat.le_refl g), upd_eq, hS, Int32.add_zero]
    · rw [ih (by omega), upd_ne (by omega), Int32.add_assoc, Int32.add_comm x, ← Int32.add_assoc]
theorem i_alg1 (a x y l : Int32) : a + x + (y - x - l) = a + (y - l) := by grind
theorem i_alg2 (b l x : Int32) : b - l - x = b - x - l := by grind
theorem i_alg3 (b x : Int32) : b - (b - x) - x = 0 := by grind
theorem i_alg4 (a b c d e : Int32) : a + e + (b + c + d) = a + (b + c) + (e + d) := by grind
theorem i_alg5 (a b c d e : Int32) : a + e + (b + (c + d)) = a + (b + c) + (e + d) := by grind
theorem i_alg6 (a b : Int32) : a - b + b = a := by grind
theorem i_alg7 (a b c : Int32) : a + (b - c) + c = a + b := by grind
theorem shr_hi {N : Nat → Int32} {w0 n : Nat} (hn : n ≤ 12) (hW : ∀ w, w < n → WW N w) : ∀ f g (y : Int32) (S : Nat → Int32) h, g < n → g < h → shr N w0 f g y S h = S h := by
  intro f
  induction f with
  | zero => intro g y S h _ _; rfl
  | succ f ih =>
    intro g y S h hg hh
    show (if g = 0 then upd S g (jmin y (mo N w0 g)) else shr N w0 f (abv N g) (y - jmin y (mo N w0 g)) (upd S g (jmin y (mo N w0 g)))) h = S h
    by_cases c : g = 0
    · rw [if_pos c, upd_ne (by omega)]
    · have e2 := (abv_eq (hW g hg) (by omega) (by omega)).2
      rw [if_neg c, ih (abv N g) _ _ h (by omega) (by omega), upd_ne (by omega)]
theorem shr_sum {N : Nat → Int32} {w0 n : Nat} (hn : n ≤ 12) (hW : ∀ w, w < n → WW N w) : ∀ f g (y : Int32) (S : Nat → Int32), g < f → g < n → (∀ h, h ≤ g → S h = 0) → sm (shr N w0 f g y S) n = sm S n + (y - shl N w0 f g y) := by
  intro f
  induction f with
  | zero => intro g y S h; exact absurd h (by omega)
  | succ f ih =>
    intro g y S hgf hg hS
    show sm (if g = 0 then upd S g (jmin y (mo N w0 g)) else shr N w0 f (abv N g) (y - jmin y (mo N w0 g)) (upd S g (jmin y (mo N w0 g)))) n = sm S n + (y - (if g = 0 then y - jmin y (mo N w0 g) else shl N w0 f (abv N g) (y - jmin y (mo N w0 g))))
    by_cases c : g = 0
    · rw [if_pos c, if_pos c, sm_upd (hS g (Nat.le_refl g)) n hg]
      grind
    · have e2 := (abv_eq (hW g hg) (by omega) (by omega)).2
      rw [if_neg c, if_neg c, ih (abv N g) _ _ (by omega) (by omega) (fun h hh => by rw [upd_ne (by omega)]; exact hS h (by omega)), sm_upd (hS g (Nat.le_refl g)) n hg, i_alg1]
theorem tl_eq {N : Nat → Int32} {w0 n : Nat} (hn : n ≤ 12) (hW : ∀ w, w < n → WW N w) : ∀ f g (y l : Int32), g < f → g < n → g < w0 → tl N w0 f g y l = l + (y - shl N w0 f g y) := by
  intro f
  induction f with
  | zero => intro g y l h; exact absurd h (by omega)
  | succ f ih =>
    intro g y l hgf hg hgw
    show (if g = 0 then l + (if g = w0 then 0 else jmin y (mo N w0 g)) else tl N w0 f (abv N g) (y - jmin y (mo N w0 g)) (l + (if g = w0 then 0 else jmin y (mo N w0 g)))) = l + (y - (if g = 0 then y - jmin y (mo N w0 g) else shl N w0 f (abv N g) (y - jmin y (mo N w0 g))))
    rw [if_neg (show ¬ g = w0 by omega)]
    by_cases c : g = 0
    · rw [if_pos c, if_pos c]
      grind
    · have e2 := (abv_eq (hW g hg) (by omega) (by omega)).2
      rw [if_neg c, if_neg c, ih (abv N g) _ _ (by omega) (by omega) (by omega), i_alg1]
theorem sx_eq {S : Nat → Int32} {w0 : Nat} : ∀ k, sx S w0 k = if w0 < k then sm S k - S w0 else sm S k := by
  intro k
  induction k with
  | zero => rw [if_neg (by omega)]; rfl
  | succ k ih =>
    show sx S w0 k + (if k = w0 then 0 else S k) = if w0 < k + 1 then sm S k + S k - S w0 else sm S k + S k
    rw [ih]
    by_cases c : k = w0
    · subst c
      rw [if_neg (by omega), if_pos rfl, if_pos (by omega)]
      grind
    · by_cases c2 : w0 < k
      · rw [if_pos c2, if_neg c, if_pos (by omega)]
        grind
      · rw [if_neg c2, if_neg c, if_neg (by omega)]
/-- the class's and the reference's number of what is lent by wells above -/
theorem lent_eq {N : Nat → Int32} {w0 n : Nat} (hn : n ≤ 12) (hW : ∀ w, w < n → WW N w) (hw : w0 < n) {b : Int32} {S : Nat → Int32} (hS : ∀ h, h < 12 → S h = 0) : sx (shr N w0 12 w0 b S) w0 n = tl N w0 12 w0 b 0 := by
  have h0 : ∀ k, k ≤ 12 → sm S k = 0 := by
    intro k
    induction k with
    | zero => intro _; rfl
    | succ k ih => intro h; show sm S k + S k = 0; rw [ih (by omega), hS k (by omega)]; rfl
  rw [sx_eq, if_pos hw, shr_sum hn hW 12 w0 b S (by omega) hw (fun h hh => hS h (by omega)), h0 n hn, Int32.zero_add]
  have e0 : shr N w0 12 w0 b S w0 = jmin b (mo N w0 w0) := by
    show (if w0 = 0 then upd S w0 (jmin b (mo N w0 w0)) else shr N w0 11 (abv N w0) (b - jmin b (mo N w0 w0)) (upd S w0 (jmin b (mo N w0 w0)))) w0 = _
    by_cases c : w0 = 0
    · rw [if_pos c, upd_eq]
    · have e2 := (abv_eq (hW w0 hw) (by omega) (by omega)).2
      rw [if_neg c, shr_hi hn hW 11 _ _ _ w0 (by omega) e2, upd_eq]
  rw [e0]
  show b - (if w0 = 0 then b - jmin b (mo N w0 w0) else shl N w0 11 (abv N w0) (b - jmin b (mo N w0 w0))) - jmin b (mo N w0 w0) = (if w0 = 0 then 0 + (if w0 = w0 then 0 else jmin b (mo N w0 w0)) else tl N w0 11 (abv N w0) (b - jmin b (mo N w0 w0)) (0 + (if w0 = w0 then 0 else jmin b (mo N w0 w0))))
  rw [if_pos rfl]
  by_cases c : w0 = 0
  · rw [if_pos c, if_pos c, i_alg3]; rfl
  · have e2 := (abv_eq (hW w0 hw) (by omega) (by omega)).2
    rw [if_neg c, if_neg c, tl_eq hn hW 11 (abv N w0) _ _ (by omega) (by omega) e2]
    grind
