/-! ===== draws: both sides ===== -/
theorem shr_rng {N : Nat → Int32} {w0 n : Nat} (hn : n ≤ 12) (hW : ∀ w, w < n → WW N w) : ∀ f g (y : Int32) (S : Nat → Int32), g < f → g < n → 0 ≤ y.toInt → (∀ h, h < n → 0 ≤ (S h).toInt ∧ (S h).toInt ≤ (N (8 + 12 * h + 4)).toInt) → ∀ h, h < n → 0 ≤ (shr N w0 f g y S h).toInt ∧ (shr N w0 f g y S h).toInt ≤ (N (8 + 12 * h + 4)).toInt := by
  intro f
  induction f with
  | zero => intro g y S h; exact absurd h (by omega)
  | succ f ih =>
    intro g y S hgf hg hy hS
    have h1 := mo_rng (w0 := w0) (hW g hg)
    have hyr := fb_rng y
    have hx : (jmin y (mo N w0 g)).toInt = min y.toInt (mo N w0 g).toInt := jmin_toInt _ _
    have hs : (y - jmin y (mo N w0 g)).toInt = y.toInt - min y.toInt (mo N w0 g).toInt := by rw [fb_subI (by omega) (by omega), hx]
    have hS1 : ∀ h, h < n → 0 ≤ (upd S g (jmin y (mo N w0 g)) h).toInt ∧ (upd S g (jmin y (mo N w0 g)) h).toInt ≤ (N (8 + 12 * h + 4)).toInt := by
      intro h hh
      by_cases c : h = g
      · subst c; rw [upd_eq, hx]; omega
      · rw [upd_ne c]; exact hS h hh
    show ∀ h, h < n → 0 ≤ ((if g = 0 then upd S g (jmin y (mo N w0 g)) else shr N w0 f (abv N g) (y - jmin y (mo N w0 g)) (upd S g (jmin y (mo N w0 g)))) h).toInt ∧ ((if g = 0 then upd S g (jmin y (mo N w0 g)) else shr N w0 f (abv N g) (y - jmin y (mo N w0 g)) (upd S g (jmin y (mo N w0 g)))) h).toInt ≤ (N (8 + 12 * h + 4)).toInt
    by_cases c : g = 0
    · rw [if_pos c]; exact hS1
    · have e2 := (abv_eq (hW g hg) (by omega) (by omega)).2
      rw [if_neg c]
      exact ih (abv N g) _ _ (by omega) (by omega) (by omega) hS1
theorem ds_PW {N S : Nat → Int32} {w0 n : Nat} : ∀ k, k ≤ n → ds (PW N w0 n S) k = ds N k + sm S k := by
  intro k
  induction k with
  | zero => intro _; rfl
  | succ k ih =>
    intro h
    show ds (PW N w0 n S) k + (PW N w0 n S (8 + 12 * k + 8) + PW N w0 n S (8 + 12 * k + 9)) = ds N k + (N (8 + 12 * k + 8) + N (8 + 12 * k + 9)) + (sm S k + S k)
    have e8 : PW N w0 n S (8 + 12 * k + 8) = if k = w0 then N (8 + 12 * k + 8) + S k else N (8 + 12 * k + 8) := by
      rw [PW_w (by omega) (by omega), if_neg (by omega), if_pos rfl]
    have e9 : PW N w0 n S (8 + 12 * k + 9) = if k = w0 then N (8 + 12 * k + 9) else N (8 + 12 * k + 9) + S k := by
      rw [PW_w (by omega) (by omega), if_neg (by omega), if_neg (by omega), if_pos rfl]
    rw [ih (by omega), e8, e9]
    by_cases c : k = w0
    · rw [if_pos c, if_pos c]; grind
    · rw [if_neg c, if_neg c]; grind
theorem Wf.drawn {n d q : Nat} {T : Int} {N S : Nat → Int32} (h : Wf n d q T N) {w0 : Nat} {b : Int32} (hS : ∀ h, h < n → 0 ≤ (S h).toInt ∧ (S h).toInt ≤ (N (8 + 12 * h + 4)).toInt) (hs : sm S n = b) : Wf n d q T (upd (PW N w0 n S) 6 (N 6 + b)) := by
  obtain ⟨hb, h0, h1, h2, hW, hD, hQ, hQ2, h6⟩ := h
  refine ⟨hb, ?_, ?_, ?_, ?_, ?_, ?_, ?_, ?_⟩
  · rw [upd_ne (by omega), PW_far (by omega)]; exact h0
  · rw [upd_ne (by omega), PW_far (by omega)]; exact h1
  · rw [upd_ne (by omega), PW_far (by omega)]; exact h2
  · intro g hg
    obtain ⟨a1, a2, a3, a4, a5, a6⟩ := hW g hg
    have e0 : upd (PW N w0 n S) 6 (N 6 + b) (8 + 12 * g) = N (8 + 12 * g) := by rw [upd_ne (by omega)]; exact PW_keep (k := 0) hg (by omega) (by omega) (by omega) (by omega)
    have e1 : upd (PW N w0 n S) 6 (N 6 + b) (8 + 12 * g + 1) = N (8 + 12 * g + 1) := by rw [upd_ne (by omega)]; exact PW_keep hg (by omega) (by omega) (by omega) (by omega)
    have e2 : upd (PW N w0 n S) 6 (N 6 + b) (8 + 12 * g + 2) = N (8 + 12 * g + 2) := by rw [upd_ne (by omega)]; exact PW_keep hg (by omega) (by omega) (by omega) (by omega)
    have e3 : upd (PW N w0 n S) 6 (N 6 + b) (8 + 12 * g + 3) = N (8 + 12 * g + 3) := by rw [upd_ne (by omega)]; exact PW_keep hg (by omega) (by omega) (by omega) (by omega)
    have e4 : upd (PW N w0 n S) 6 (N 6 + b) (8 + 12 * g + 4) = N (8 + 12 * g + 4) - S g := by rw [upd_ne (by omega), PW_w hg (by omega), if_pos rfl]
    have hSg := hS g hg
    have e5 : (N (8 + 12 * g + 4) - S g).toInt = (N (8 + 12 * g + 4)).toInt - (S g).toInt := fb_subI (by omega) (by omega)
    refine ⟨fun e => by rw [e0]; exact a1 e, fun e => by rw [e0]; exact a2 e, by rw [e1]; exact a3, by rw [e2]; exact a4, by rw [e3]; exact a5, ?_⟩
    rw [e1, e4, e5]; omega
  · intro i hi
    obtain ⟨a, ha, hb⟩ := hD i hi
    exact ⟨a, ha, by rw [upd_ne (by omega), PW_far (by omega)]; exact hb⟩
  · intro i hi
    obtain ⟨a, ha, hb⟩ := hQ i hi
    exact ⟨a, ha, by rw [upd_ne (by omega), PW_far (by omega)]; exact hb⟩
  · intro i hi
    rw [upd_ne (by omega), PW_far (by omega)]
    exact hQ2 i hi
  · rw [upd_eq, ds_upd (by intro g; omega), ds_PW n (Nat.le_refl n), hs, h6]
theorem bl_congr {N M : Nat → Int32} {p : Int32} : ∀ k, (∀ g, g < k → N (8 + 12 * g) = M (8 + 12 * g)) → bl N p k = bl M p k := by
  intro k
  induction k with
  | zero => intro _; rfl
  | succ k ih =>
    intro h
    show bl N p k + _ = bl M p k + _
    rw [ih (fun g hg => h g (by omega)), h k (by omega)]
/-- the relation looks at the reference's row at its own places alone -/
theorem Rel.congr {n d q : Nat} {V : FV} {N M : Nat → Int32} (h : Rel n d q V N) (hn : n ≤ 12) (hd : d ≤ 20) (hq : q ≤ 8) (he : ∀ j, j < 236 → j ≠ 6 → M j = N j) : Rel n d q V M := by
  obtain ⟨⟨a1, a2, a3, a4, a5, a6, a7, a8, a9, a10⟩, b, c, e, f, g⟩ := h
  refine ⟨⟨a1, ?_, a3, ?_, a5, ?_, ?_, ?_, ?_, ?_⟩, ?_, ?_, e, ?_, ?_⟩
  · rw [he 3 (by omega) (by omega)]; exact a2
  · rw [he 4 (by omega) (by omega)]; exact a4
  · rw [he 5 (by omega) (by omega)]; exact a6
  · rw [he 0 (by omega) (by omega)]; exact a7
  · rw [he 1 (by omega) (by omega)]; exact a8
  · rw [he 2 (by omega) (by omega)]; exact a9
  · rw [he 7 (by omega) (by omega)]; exact a10
  · intro w r h1 h2; rw [he _ (by omega) (by omega)]; exact b w r h1 h2
  · intro w h1; rw [c w h1]; exact bl_congr n (fun g hg => (he _ (by omega) (by omega)).symm)
  · intro i k h1 h2; rw [he _ (by omega) (by omega)]; exact f i k h1 h2
  · intro i k h1 h2; rw [he _ (by omega) (by omega)]; exact g i k h1 h2
def res (S : Nat → Int32) (i : Nat) : Nat → Int32 := fun h => if h < i then S h else 0
theorem res_s {S : Nat → Int32} {i : Nat} : upd (res S i) i (S i) = res S (i + 1) := by
  funext h
  rw [upd_at]
  unfold res
  by_cases c : h = i
  · rw [if_pos c, if_pos (by omega), c]
  · rw [if_neg c]
    by_cases c2 : h < i
    · rw [if_pos c2, if_pos (by omega)]
    · rw [if_neg c2, if_neg (by omega)]
theorem pour_loop {n d q : Nat} (hn : n ≤ 12) {N S : Nat → Int32} {w0 : Nat} (hw0 : w0 < 12) : ∀ (k i m : Nat) (V : FV), i + k = n → Rel n d q V (PW N w0 n (res S i)) → V 5 = S → ∃ V' : FV, f_X0_pourShares_L4 (m + k + 1) (nI w0) (sx S w0 i) (nI i) V = some (sx S w0 n, V') ∧ Rel n d q V' (PW N w0 n (res S n)) := by
  intro k
  induction k with
  | zero =>
    intro i m V h hR hS
    have hi : i = n := by omega
    subst hi
    refine ⟨V, ?_, hR⟩
    show (if (V 0 0) ≤ nI i then _ else _) = _
    rw [hR.1.1, if_pos (nI_le (Nat.le_refl i) (by omega))]
  | succ k ih =>
    intro i m V h hR hS
    have hlt : i < n := by omega
    have hz : res S i i = 0 := if_neg (Nat.lt_irrefl i)
    have hstep := PW_step (N := N) (w0 := w0) (x := S i) hlt hz
    rw [res_s] at hstep
    have v4 : V 10 i = PW N w0 n (res S i) (8 + 12 * i + 4) := hR.2.1 i 4 hlt (by omega)
    have hR1 := hR.put (w := i) (r := 4) hn hlt (by omega) (by omega) (V 10 i - S i)
    show ∃ V' : FV, (if (V 0 0) ≤ nI i then some (sx S w0 i, V) else ((rd 12 (V 5) (nI i)).bind fun x2 => ((rd 12 (V 10) (nI i)).bind fun x3 => ((wr 12 V 10 (nI i) (x3 - x2)).bind fun V4 => (if nI i = nI w0 then ((rd 12 (V4 14) (nI i)).bind fun x8 => ((wr 12 V4 14 (nI i) (x8 + x2)).bind fun V9 => (f_X0_pourShares_L4 (m + k + 1) (nI w0) (sx S w0 i) (nI i + 1) V9))) else ((rd 12 (V4 15) (nI i)).bind fun x6 => ((wr 12 V4 15 (nI i) (x6 + x2)).bind fun V7 => (f_X0_pourShares_L4 (m + k + 1) (nI w0) (sx S w0 i + x2) (nI i + 1) V7)))))))) = some (sx S w0 n, V') ∧ _
    rw [hR.1.1, if_neg (nI_ge hlt (by omega)), rd_nI (by omega) (by omega), ob_s, rd_nI (by omega) (by omega), ob_s, wr_nI (by omega) (by omega), ob_s, hS, nI_1]
    by_cases cw : i = w0
    · rw [if_pos (by rw [cw]), rd_nI (by omega) (by omega), ob_s, wr_nI (by omega) (by omega), ob_s]
      have v8 : st V 10 i (V 10 i - S i) 14 i = upd (PW N w0 n (res S i)) (8 + 12 * i + 4) (V 10 i - S i) (8 + 12 * i + 8) := hR1.2.1 i 8 hlt (by omega)
      have hR2 := hR1.put (w := i) (r := 8) hn hlt (by omega) (by omega) (st V 10 i (V 10 i - S i) 14 i + S i)
      have eM : upd (upd (PW N w0 n (res S i)) (8 + 12 * i + 4) (V 10 i - S i)) (8 + 12 * i + 8) (st V 10 i (V 10 i - S i) 14 i + S i) = PW N w0 n (res S (i + 1)) := by
        rw [← hstep, v8, v4, Int32.sub_eq_add_neg]
        unfold tkd
        rw [if_pos cw]
        rfl
      rw [eM] at hR2
      have hl : sx S w0 i = sx S w0 (i + 1) := by
        show sx S w0 i = sx S w0 i + (if i = w0 then 0 else S i)
        rw [if_pos cw, Int32.add_zero]
      rw [hl]
      exact ih (i + 1) m _ (by omega) hR2 (by rw [← hS]; rfl)
    · rw [if_neg (fun e => cw ((nI_eq (by omega) (by omega)).mp e)), rd_nI (by omega) (by omega), ob_s, wr_nI (by omega) (by omega), ob_s]
      have v8 : st V 10 i (V 10 i - S i) 15 i = upd (PW N w0 n (res S i)) (8 + 12 * i + 4) (V 10 i - S i) (8 + 12 * i + 9) := hR1.2.1 i 9 hlt (by omega)
      have hR2 := hR1.put (w := i) (r := 9) hn hlt (by omega) (by omega) (st V 10 i (V 10 i - S i) 15 i + S i)
      have eM : upd (upd (PW N w0 n (res S i)) (8 + 12 * i + 4) (V 10 i - S i)) (8 + 12 * i + 9) (st V 10 i (V 10 i - S i) 15 i + S i) = PW N w0 n (res S (i + 1)) := by
        rw [← hstep, v8, v4, Int32.sub_eq_add_neg]
        unfold tkd
        rw [if_neg cw]
        rfl
      rw [eM] at hR2
      have hl : sx S w0 i + S i = sx S w0 (i + 1) := by
        show sx S w0 i + S i = sx S w0 i + (if i = w0 then 0 else S i)
        rw [if_neg cw]
      rw [hl]
      exact ih (i + 1) m _ (by omega) hR2 (by rw [← hS]; rfl)
theorem S0_0 {V : FV} : ∀ h, h < 12 → S0 V h = 0 := fun _ hh => if_pos hh
/-- shares that are just made are poured: the class's field is then the reference's -/
theorem pour_eq {n d q : Nat} {T : Int} {V : FV} {N S : Nat → Int32} (hO : Ok n d q T V N) {w0 : Nat} (hw : w0 < n) : ∃ V' : FV, f_X0_pourShares (sS V S) (nI w0) = some (sx S w0 n, V') ∧ Rel n d q V' (PW N w0 n S) := by
  have hb := hO.2.1
  obtain ⟨m, hm⟩ := FUEL_ge (k := n + 1) (by omega)
  have e0 : PW N w0 n (res S 0) = N := PW_0 (fun g _ => if_neg (Nat.not_lt_zero g))
  obtain ⟨V', e1, e2⟩ := pour_loop (d := d) (q := q) (N := N) (S := S) hb.1 (w0 := w0) (by omega) n 0 m (sS V S) (by omega) (by rw [e0]; exact hO.1.sS) rfl
  have e3 : PW N w0 n (res S n) = PW N w0 n S := PW_congr (fun g hg => if_pos hg)
  rw [e3] at e2
  unfold f_X0_pourShares
  rw [hm]
  exact ⟨V', e1, e2⟩
theorem Cl.far {n : Nat} {c : Int} {N M : Nat → Int32} (h : Cl n c N) (he : ∀ w, w < n → M (8 + 12 * w + 5) = N (8 + 12 * w + 5)) : Cl n c M := fun w hw => by rw [he w hw]; exact h w hw
/-- a possible draw, on both sides -/
theorem take_exp {n d q : Nat} {T : Int} {V Vm : FV} {N : Nat → Int32} (hO : Ok n d q T V N) {w0 : Nat} (hw : w0 < n) {b : Int32} (hb0 : 0 ≤ b.toInt) (hp : b.toInt ≤ abl N w0 12 w0) : ∃ (l : Int32) (V' : FV), f_X0_pourShares (sS V (shr N w0 12 w0 b (S0 V))) (nI w0) = some (l, V') ∧ f_X4_takes (sM Vm N) (nI w0) b = some (l, sM Vm (upd (PW N w0 n (shr N w0 12 w0 b (S0 V))) 6 (N 6 + b))) ∧ Ok n d q T V' (upd (PW N w0 n (shr N w0 12 w0 b (S0 V))) 6 (N 6 + b)) ∧ (∀ c, Cl n c N → Cl n c (upd (PW N w0 n (shr N w0 12 w0 b (S0 V))) 6 (N 6 + b))) ∧ (∀ j, (j < 6 ∨ j = 7 ∨ 152 ≤ j) → (upd (PW N w0 n (shr N w0 12 w0 b (S0 V))) 6 (N 6 + b)) j = N j) ∧ 0 ≤ l.toInt := by
  have hb := hO.2.1
  have hW := hO.2.2.2.2.2.1
  obtain ⟨V', e1, e2⟩ := pour_eq hO (S := shr N w0 12 w0 b (S0 V)) hw
  have hS := shr_rng (w0 := w0) hb.1 hW 12 w0 b (S0 V) (by omega) hw hb0 (fun h hh => by
    rw [S0_0 h (by omega)]
    obtain ⟨-, -, -, -, -, q2⟩ := hW h hh
    exact ⟨Int.le_refl _, q2.1⟩)
  have hleft : shl N w0 12 w0 b = 0 := by
    have h1 := shl_toInt (w0 := w0) hb.1 hW 12 w0 b (by omega) hw hb0
    rw [i_eq, h1, i_0]; omega
  have h0 : ∀ k, k ≤ 12 → sm (S0 V) k = 0 := by
    intro k
    induction k with
    | zero => intro _; rfl
    | succ k ih => intro h; show sm (S0 V) k + S0 V k = 0; rw [ih (by omega), S0_0 k (by omega)]; rfl
  have hsum : sm (shr N w0 12 w0 b (S0 V)) n = b := by
    rw [shr_sum hb.1 hW 12 w0 b (S0 V) (by omega) hw (fun h hh => S0_0 h (by omega)), h0 n hb.1, hleft, Int32.zero_add, Int32.sub_zero]
  have hlent := lent_eq (N := N) hb.1 hW hw (b := b) (S := S0 V) S0_0
  refine ⟨sx (shr N w0 12 w0 b (S0 V)) w0 n, V', e1, ?_, ⟨?_, hO.2.drawn (w0 := w0) hS hsum⟩, ?_, ?_, ?_⟩
  · rw [hlent]
    exact takes_eq hO.2 hw S0_0
  · exact e2.congr hb.1 hb.2.1 hb.2.2 (fun j _ h => upd_ne h)
  · intro c hc
    exact hc.far (fun w hw => by rw [upd_ne (by omega)]; exact PW_keep hw (by omega) (by omega) (by omega) (by omega))
  · intro j hj
    rw [upd_ne (by omega), PW_far (by omega)]
  · rw [sx_eq, if_pos hw, hsum]
    have e0 : (shr N w0 12 w0 b (S0 V) w0).toInt ≤ b.toInt := by
      have hyr := fb_rng b
      have hm := mo_rng (w0 := w0) (hW w0 hw)
      have : shr N w0 12 w0 b (S0 V) w0 = jmin b (mo N w0 w0) := by
        show (if w0 = 0 then upd (S0 V) w0 (jmin b (mo N w0 w0)) else shr N w0 11 (abv N w0) (b - jmin b (mo N w0 w0)) (upd (S0 V) w0 (jmin b (mo N w0 w0)))) w0 = _
        by_cases c : w0 = 0
        · rw [if_pos c, upd_eq]
        · have e2 := (abv_eq (hW w0 hw) (by omega) (by omega)).2
          rw [if_neg c, shr_hi hb.1 hW 11 _ _ _ w0 (by omega) e2, upd_eq]
      rw [this, jmin_toInt]; omega
    have h1 := hS w0 hw
    have h2 := fb_rng b
    rw [fb_subI (by omega) (by omega)]
    omega
theorem take_both {n d q : Nat} {T : Int} {V Vm : FV} {N : Nat → Int32} (hO : Ok n d q T V N) {w0 : Nat} (hw : w0 < n) {b : Int32} (hb0 : 0 ≤ b.toInt) (hp : b.toInt ≤ abl N w0 12 w0) : ∃ (l : Int32) (V' : FV) (N' : Nat → Int32), f_X0_pourShares (sS V (shr N w0 12 w0 b (S0 V))) (nI w0) = some (l, V') ∧ f_X4_takes (sM Vm N) (nI w0) b = some (l, sM Vm N') ∧ Ok n d q T V' N' ∧ (∀ c, Cl n c N → Cl n c N') ∧ (∀ j, (j < 6 ∨ j = 7 ∨ 152 ≤ j) → N' j = N j) ∧ 0 ≤ l.toInt := by
  obtain ⟨l, V', e1, e2, e3, e4, e5, e6⟩ := take_exp (Vm := Vm) hO hw hb0 hp
  exact ⟨l, V', _, e1, e2, e3, e4, e5, e6⟩
def bk (p : Int32) : Int32 := if p < 1 then 0 else if 999 < p then 0 else 1
theorem areB_eq (p : Int32) : f_X3_areBuckets p = some (bk p) := by
  unfold f_X3_areBuckets bk
  by_cases h : p < 1
  · rw [if_pos h, if_pos h]
  · rw [if_neg h, if_neg h]
    by_cases h2 : 999 < p
    · rw [if_pos h2, if_pos h2]
    · rw [if_neg h2, if_neg h2]
theorem isDraw_eq (p : Int32) : f_X4_isDraw p = some (bk p) := by
  unfold f_X4_isDraw f_X4_in bk
  by_cases h : p < 1
  · rw [if_pos h, if_pos h, ob_s, bz_0, ob_s]
  · rw [if_neg h, if_neg h]
    by_cases h2 : 999 < p
    · rw [if_pos h2, if_pos h2, ob_s, bz_0, ob_s]
    · rw [if_neg h2, if_neg h2, ob_s, bz_1, ob_s]
theorem bk_case (p : Int32) : bk p = 0 ∨ (bk p = 1 ∧ 1 ≤ p.toInt ∧ p.toInt ≤ 999) := by
  unfold bk
  by_cases h : p < 1
  · rw [if_pos h]; exact Or.inl rfl
  · rw [if_neg h]
    by_cases h2 : 999 < p
    · rw [if_pos h2]; exact Or.inl rfl
    · rw [if_neg h2]
      rw [i_lt] at h h2
      have e1 : (1 : Int32).toInt = 1 := rfl
      have e2 : (999 : Int32).toInt = 999 := rfl
      exact Or.inr ⟨rfl, by omega, by omega⟩
theorem x4W {n d q : Nat} {V Vm : FV} {N : Nat → Int32} (hR : Rel n d q V N) : (sM Vm N) 1 3 = nI n := hR.1.2.1
/-- a draw that is asked for -/
theorem draw_sim {n d q : Nat} {T : Int} {V Vm : FV} {N : Nat → Int32} (hO : Ok n d q T V N) (p1 p2 : Int32) : ∃ (r : Int32) (V' : FV) (N' : Nat → Int32), f_X0_takeDraw V p1 p2 = some (r, V') ∧ f_X4_draws (sM Vm N) p1 p2 = some (r, sM Vm N') ∧ Ok n d q T V' N' ∧ (∀ c, Cl n c N → Cl n c N') ∧ (∀ j, (j < 6 ∨ j = 7 ∨ 152 ≤ j) → N' j = N j) ∧ (r < 0 → N' = N) := by
  have hb := hO.2.1
  unfold f_X0_takeDraw f_X4_draws
  rcases ix_case n hb.1 p1 with ⟨w0, hw, rfl⟩ | hno
  · rw [x0_isWell_y hO.1.1.1 hb.1 hw, ob_s, if_neg (by decide), x4_isWell_y (x4W hO.1) hb.1 hw, ob_s, if_neg (by decide), areB_eq, ob_s, isDraw_eq, ob_s]
    rcases bk_case p2 with h | ⟨h, h1, h2⟩
    · rw [h, if_pos rfl, if_pos rfl]
      exact ⟨-1, V, N, rfl, rfl, hO, fun _ h => h, fun _ _ => rfl, fun _ => rfl⟩
    · rw [h, if_neg (by decide), if_neg (by decide), share_eq hO hw, b2_mk]
      obtain ⟨a, ha, hai⟩ := ableOf_eq (V := sM Vm N) rfl hO.2 hw
      have hs := share_toInt hO hw (b := p2) (by omega)
      rw [ha, ob_s]
      by_cases hp : p2.toInt ≤ abl N w0 12 w0
      · rw [if_pos (by rw [i_eq, hs]; omega), if_pos (by rw [i_le, hai]; exact hp)]
        obtain ⟨l, V', N', e1, e2, e3, e4, e5, e6⟩ := take_both (Vm := Vm) hO hw (b := p2) (by omega) hp
        rw [e1, b2_mk, e2, b2_mk]
        exact ⟨l, V', N', rfl, rfl, e3, e4, e5, fun h => absurd h (by rw [i_lt, i_0]; omega)⟩
      · rw [if_neg (by rw [i_eq, hs]; omega), if_neg (by rw [i_le, hai]; exact hp)]
        exact ⟨-2, _, N, rfl, rfl, ⟨hO.1.sS, hO.2⟩, fun _ h => h, fun _ _ => rfl, fun _ => rfl⟩
  · rw [x0_isWell_n hO.1.1.1 hno, ob_s, if_pos rfl, x4_isWell_n (x4W hO.1) hb.1 hno, ob_s, if_pos rfl]
    exact ⟨-1, V, N, rfl, rfl, hO, fun _ h => h, fun _ _ => rfl, fun _ => rfl⟩
