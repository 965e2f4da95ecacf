/-! ===== the row of waiting requests ===== -/
def mvV (V : FV) (p k : Nat) : FV := st (st (st V 22 k (V 22 p)) 23 k (V 23 p)) 24 k (V 24 p)
theorem mv_step {V : FV} {p k : Nat} (hp : p < 8) (hk : k < 8) {i m : Nat} (hi : i < 3) : f_X0_moveRequest_L2 (m + 1) (nI p) (nI k) (nI i) V = f_X0_moveRequest_L2 m (nI p) (nI k) (nI (i + 1)) (st V (22 + i) k (V (22 + i) p)) := by
  show (if 3 ≤ nI i then some V else ((ix 3 (nI i)).bind fun j2 => ((ix 3 (nI i)).bind fun j3 => ((rd 8 (V (22 + j3)) (nI p)).bind fun x4 => ((wr 8 V (22 + j2) (nI k) x4).bind fun V5 => (f_X0_moveRequest_L2 m (nI p) (nI k) (nI i + 1) V5)))))) = _
  rw [show (3 : Int32) = nI 3 from rfl, if_neg (nI_ge hi (by omega)), ix_nI hi (by omega), ob_s, ob_s, rd_nI hp (by omega), ob_s, wr_nI hk (by omega), ob_s, nI_1]
theorem move_eq {V : FV} {p k : Nat} (hp : p < 8) (hk : k < 8) : f_X0_moveRequest V (nI p) (nI k) = some (mvV V p k) := by
  obtain ⟨m, hm⟩ := FUEL_ge (k := 4) (by omega)
  unfold f_X0_moveRequest
  rw [hm, show (0 : Int32) = nI 0 from rfl, show m + 4 = m + 3 + 1 from rfl, mv_step hp hk (by omega), show m + 3 = m + 2 + 1 from rfl, mv_step hp hk (by omega), show m + 2 = m + 1 + 1 from rfl, mv_step hp hk (by omega)]
  show some (st (st (st V 22 k (V 22 p)) 23 k (st V 22 k (V 22 p) 23 p)) 24 k (st (st V 22 k (V 22 p)) 23 k (st V 22 k (V 22 p) 23 p) 24 p)) = some (mvV V p k)
  unfold mvV
  rw [st_ne (i := 22) (j := k) (a := 23) (b := p) (by omega), st_ne (i := 23) (j := k) (a := 24) (b := p) (by omega), st_ne (i := 22) (j := k) (a := 24) (b := p) (by omega)]
theorem mvV_at {V : FV} {p k i j : Nat} : mvV V p k i j = if (22 ≤ i ∧ i < 25) ∧ j = k then V i p else V i j := by
  unfold mvV
  rw [st_at, st_at, st_at]
  by_cases c : (22 ≤ i ∧ i < 25) ∧ j = k
  · rw [if_pos c]
    obtain ⟨⟨c1, c2⟩, c3⟩ := c
    rcases (show i = 22 ∨ i = 23 ∨ i = 24 by omega) with rfl | rfl | rfl
    · rw [if_neg (by omega), if_neg (by omega), if_pos ⟨rfl, c3⟩]
    · rw [if_neg (by omega), if_pos ⟨rfl, c3⟩]
    · rw [if_pos ⟨rfl, c3⟩]
  · rw [if_neg c, if_neg (by omega), if_neg (by omega), if_neg (by omega)]
def mvM (M : Nat → Int32) (p k : Nat) : Nat → Int32 := fun j => if 212 + 3 * k ≤ j ∧ j < 215 + 3 * k then M (212 + 3 * p + (j - (212 + 3 * k))) else M j
theorem mvM_lo {M : Nat → Int32} {p k j : Nat} (h : j < 212) : mvM M p k j = M j := if_neg (by omega)
theorem mvM_r {M : Nat → Int32} {p k i r : Nat} (hr : r < 3) : mvM M p k (212 + 3 * i + r) = if i = k then M (212 + 3 * p + r) else M (212 + 3 * i + r) := by
  unfold mvM
  by_cases c : i = k
  · subst c
    rw [if_pos rfl, if_pos (by omega), show 212 + 3 * i + r - (212 + 3 * i) = r by omega]
  · rw [if_neg c, if_neg (by omega)]
theorem Ok.mv {n d q : Nat} {T : Int} {V : FV} {M : Nat → Int32} (h : Ok n d q T V M) {p k : Nat} (hp : p < q) (hk : k ≤ p) : Ok n d q T (mvV V p k) (mvM M p k) := by
  obtain ⟨⟨⟨a1, a2, a3, a4, a5, a6, a7, a8, a9, a10⟩, hb, hc, he, hf, hg⟩, ⟨hbd, h0, h1, h2, hW, hD, hQ, hQ2, h6⟩⟩ := h
  have lV : ∀ i j, i < 22 → mvV V p k i j = V i j := fun i j hi => by rw [mvV_at, if_neg (by omega)]
  refine ⟨⟨⟨?_, ?_, ?_, ?_, ?_, ?_, ?_, ?_, ?_, ?_⟩, ?_, ?_, ?_, ?_, ?_⟩, ⟨hbd, ?_, ?_, ?_, ?_, ?_, ?_, ?_, ?_⟩⟩
  · rw [lV _ _ (by omega)]; exact a1
  · rw [mvM_lo (by omega)]; exact a2
  · rw [lV _ _ (by omega)]; exact a3
  · rw [mvM_lo (by omega)]; exact a4
  · rw [lV _ _ (by omega)]; exact a5
  · rw [mvM_lo (by omega)]; exact a6
  · rw [lV _ _ (by omega), mvM_lo (by omega)]; exact a7
  · rw [lV _ _ (by omega), mvM_lo (by omega)]; exact a8
  · rw [lV _ _ (by omega), mvM_lo (by omega)]; exact a9
  · rw [lV _ _ (by omega), mvM_lo (by omega)]; exact a10
  · intro w r hw hr; rw [lV _ _ (by omega), mvM_lo (by omega)]; exact hb w r hw hr
  · intro w hw; rw [lV _ _ (by omega), hc w hw]; exact bl_congr n (fun g hg => (mvM_lo (by omega)).symm)
  · intro w r x1 x2 x3 x4; rw [lV _ _ (by omega)]; exact he w r x1 x2 x3 x4
  · intro i r hi hr; rw [lV _ _ (by omega), mvM_lo (by omega)]; exact hf i r hi hr
  · intro i r hi hr
    rw [mvV_at, mvM_r hr]
    by_cases c : i = k
    · rw [if_pos (by omega), if_pos c]; exact hg p r hp hr
    · rw [if_neg (by omega), if_neg c]; exact hg i r hi hr
  · rw [mvM_lo (by omega)]; exact h0
  · rw [mvM_lo (by omega)]; exact h1
  · rw [mvM_lo (by omega)]; exact h2
  · intro w hw; exact (hW w hw).congr (fun r hr => mvM_lo (by omega))
  · intro i hi; rw [mvM_lo (by omega)]; exact hD i hi
  · intro i hi
    have := mvM_r (M := M) (p := p) (k := k) (i := i) (r := 0) (by omega)
    simp only [Nat.add_zero] at this
    rw [this]
    by_cases c : i = k
    · rw [if_pos c]; exact hQ p hp
    · rw [if_neg c]; exact hQ i hi
  · intro i hi
    rw [mvM_r (by omega)]
    by_cases c : i = k
    · rw [if_pos c]; exact hQ2 p hp
    · rw [if_neg c]; exact hQ2 i hi
  · rw [mvM_lo (by omega), h6]; exact (ds_congr n (fun g r hg hr => mvM_lo (by omega))).symm
/-- the reference: what is behind a request moves by one -/
def Lv (N : Nat → Int32) (a b : Nat) : Nat → Int32 := fun j => if a ≤ j ∧ j < b then N (j + 3) else N j
theorem Lv_lo {N : Nat → Int32} {a b j : Nat} (h : j < a) : Lv N a b j = N j := if_neg (by omega)
theorem Lv_s {N : Nat → Int32} {a i : Nat} (h : a ≤ i) : upd (Lv N a i) i (Lv N a i (i + 3)) = Lv N a (i + 1) := by
  funext j
  rw [upd_at, show Lv N a i (i + 3) = N (i + 3) from if_neg (by omega)]
  unfold Lv
  by_cases c : j = i
  · rw [if_pos c, if_pos (by omega), c]
  · rw [if_neg c]
    by_cases c2 : a ≤ j ∧ j < i
    · rw [if_pos c2, if_pos (by omega)]
    · rw [if_neg c2, if_neg (by omega)]
theorem leaves_loop {Vm : FV} {N : Nat → Int32} {a c : Nat} {y : Int32} (ha : 8 ≤ a) (hc : c < 8) (h5 : N 5 = nI c) : ∀ (t i m : Nat), i + t = 212 + 3 * c → a ≤ i → f_X4_leaves_L18 (m + t + 1) y (nI i) (sM Vm (Lv N a i)) = some (sM Vm (Lv N a (212 + 3 * c))) := by
  intro t
  induction t with
  | zero =>
    intro i m h1 h2
    have hi : i = 212 + 3 * c := by omega
    subst hi
    show (if (212 + (3 * (Lv N a (212 + 3 * c) 5))) ≤ nI (212 + 3 * c) then _ else _) = _
    rw [Lv_lo (by omega), h5, ix_q, if_pos (nI_le (by omega) (by omega))]
  | succ t ih =>
    intro i m h1 h2
    show (if (212 + (3 * (Lv N a i 5))) ≤ nI i then some (sM Vm (Lv N a i)) else ((rd 236 (Lv N a i) (nI i + 3)).bind fun x3 => ((wr 236 (sM Vm (Lv N a i)) 1 (nI i) x3).bind fun V4 => (f_X4_leaves_L18 (m + t + 1) y (nI i + 1) V4)))) = _
    rw [Lv_lo (by omega), h5, ix_q, if_neg (nI_ge (by omega) (by omega)), nI_3, rd_nI (by omega) (by omega), ob_s, wr_nI (by omega) (by omega), ob_s, st_sM2, Lv_s h2, nI_1]
    exact ih (i + 1) m (by omega) (by omega)
theorem nI_sub1 (c : Nat) : nI (c + 1) - 1 = nI c := by
  rw [show nI (c + 1) = nI c + nI 1 from (nI_add c 1).symm, show (1 : Int32) = nI 1 from rfl, Int32.add_sub_cancel]
theorem leaves_eq {Vm : FV} {N : Nat → Int32} {k c : Nat} (hk : k ≤ c) (hc : c < 8) (h5 : N 5 = nI (c + 1)) : f_X4_leaves (sM Vm N) (nI k) = some (sM Vm (Lv (upd N 5 (nI c)) (212 + 3 * k) (212 + 3 * c))) := by
  obtain ⟨m, hm⟩ := FUEL_ge (k := 3 * (c - k) + 1) (by omega)
  unfold f_X4_leaves
  rw [lt1_mk, sM_1, h5, nI_sub1, st_sM2, ix_q, hm]
  have h := leaves_loop (Vm := Vm) (N := upd N 5 (nI c)) (a := 212 + 3 * k) (c := c) (y := nI k) (by omega) hc upd_eq (3 * (c - k)) (212 + 3 * k) m (by omega) (Nat.le_refl _)
  rw [show Lv (upd N 5 (nI c)) (212 + 3 * k) (212 + 3 * k) = upd N 5 (nI c) by funext j; exact if_neg (by omega)] at h
  exact h
/-- the class's row with M, where k are kept of p that were looked at, and the reference's N -/
def J (n d q : Nat) (T : Int) (k p : Nat) (x : Int32) (V : FV) (M N : Nat → Int32) : Prop :=
  Ok n d q T V M ∧ (k ≤ p ∧ p ≤ q) ∧ (∀ j, j < 212 → j ≠ 5 → j ≠ 7 → N j = M j) ∧ N 5 = nI (k + (q - p)) ∧ N 7 = M 7 + x ∧
  (∀ i r, i < k → r < 3 → N (212 + 3 * i + r) = M (212 + 3 * i + r)) ∧ (∀ i r, i < q - p → r < 3 → N (212 + 3 * (k + i) + r) = M (212 + 3 * (p + i) + r))
theorem J.wf {n d q : Nat} {T : Int} {k p : Nat} {x : Int32} {V : FV} {M N : Nat → Int32} (h : J n d q T k p x V M N) : Wf n d (k + (q - p)) T N := by
  obtain ⟨⟨-, ⟨hbd, h0, h1, h2, hW, hD, hQ, hQ2, h6⟩⟩, hkp, e, -, -, ea, eb⟩ := h
  refine ⟨⟨hbd.1, hbd.2.1, by omega⟩, by rw [e 0 (by omega) (by omega) (by omega)]; exact h0, by rw [e 1 (by omega) (by omega) (by omega)]; exact h1, by rw [e 2 (by omega) (by omega) (by omega)]; exact h2, ?_, ?_, ?_, ?_, ?_⟩
  · intro w hw; exact (hW w hw).congr (fun r hr => e _ (by omega) (by omega) (by omega))
  · intro i hi; rw [e _ (by omega) (by omega) (by omega)]; exact hD i hi
  · intro i hi
    by_cases c : i < k
    · have := ea i 0 c (by omega)
      simp only [Nat.add_zero] at this
      rw [this]; exact hQ i (by omega)
    · have := eb (i - k) 0 (by omega) (by omega)
      rw [show k + (i - k) = i by omega] at this
      simp only [Nat.add_zero] at this
      rw [this]; exact hQ _ (by omega)
  · intro i hi
    by_cases c : i < k
    · rw [ea i 1 c (by omega)]; exact hQ2 i (by omega)
    · have := eb (i - k) 1 (by omega) (by omega)
      rw [show k + (i - k) = i by omega] at this
      rw [this]; exact hQ2 _ (by omega)
  · rw [e 6 (by omega) (by omega) (by omega), h6]; exact (ds_congr n (fun g r hg hr => e _ (by omega) (by omega) (by omega))).symm
theorem J.mv {n d q : Nat} {T : Int} {k p : Nat} {x : Int32} {V : FV} {M N : Nat → Int32} (h : J n d q T k p x V M N) (hp : p < q) : J n d q T (k + 1) (p + 1) x (mvV V p k) (mvM M p k) N := by
  obtain ⟨hO, hkp, e, e5, e7, ea, eb⟩ := h
  refine ⟨hO.mv hp hkp.1, by omega, fun j h1 h2 h3 => by rw [mvM_lo h1]; exact e j h1 h2 h3, by rw [e5]; congr 1; omega, by rw [mvM_lo (by omega)]; exact e7, ?_, ?_⟩
  · intro i r hi hr
    rw [mvM_r hr]
    by_cases c : i = k
    · rw [if_pos c, c]; exact eb 0 r (by omega) hr
    · rw [if_neg c]; exact ea i r (by omega) hr
  · intro i r hi hr
    rw [mvM_r hr, if_neg (by omega)]
    have := eb (i + 1) r (by omega) hr
    rw [show k + 1 + i = k + (i + 1) by omega, show p + 1 + i = p + (i + 1) by omega]
    exact this
theorem J.leave {n d q : Nat} {T : Int} {k p : Nat} {x : Int32} {V : FV} {M N : Nat → Int32} (h : J n d q T k p x V M N) (hp : p < q) : J n d q T k (p + 1) x V M (Lv (upd N 5 (nI (k + (q - p) - 1))) (212 + 3 * k) (212 + 3 * (k + (q - p) - 1))) := by
  obtain ⟨hO, hkp, e, e5, e7, ea, eb⟩ := h
  refine ⟨hO, by omega, ?_, ?_, ?_, ?_, ?_⟩
  · intro j h1 h2 h3; rw [Lv_lo (by omega), upd_ne h2]; exact e j h1 h2 h3
  · rw [Lv_lo (by omega), upd_eq]; congr 1; omega
  · rw [Lv_lo (by omega), upd_ne (by omega)]; exact e7
  · intro i r hi hr; rw [Lv_lo (by omega), upd_ne (by omega)]; exact ea i r hi hr
  · intro i r hi hr
    unfold Lv
    rw [if_pos (by omega), upd_ne (by omega), show 212 + 3 * (k + i) + r + 3 = 212 + 3 * (k + (i + 1)) + r by omega, show p + 1 + i = p + (i + 1) by omega]
    exact eb (i + 1) r (by omega) hr
theorem J.more {n d q : Nat} {T : Int} {k p : Nat} {x y : Int32} {V : FV} {M N : Nat → Int32} (h : J n d q T k p x V M N) : J n d q T k p (x + y) V M (upd N 7 (N 7 + y)) := by
  obtain ⟨hO, hkp, e, e5, e7, ea, eb⟩ := h
  refine ⟨hO, hkp, fun j h1 h2 h3 => by rw [upd_ne h3]; exact e j h1 h2 h3, by rw [upd_ne (by omega)]; exact e5, by rw [upd_eq, e7, Int32.add_assoc], fun i r hi hr => by rw [upd_ne (by omega)]; exact ea i r hi hr, fun i r hi hr => by rw [upd_ne (by omega)]; exact eb i r hi hr⟩
theorem J.fin {n d q : Nat} {T : Int} {k : Nat} {x : Int32} {V : FV} {M N : Nat → Int32} (h : J n d q T k q x V M N) : Ok n d k T (st (st V 0 2 (nI k)) 0 4 (V 0 4 + x)) N := by
  have hWf := h.wf
  rw [show k + (q - q) = k by omega] at hWf
  obtain ⟨⟨⟨⟨a1, a2, a3, a4, a5, a6, a7, a8, a9, a10⟩, hb, hc, he, hf, hg⟩, -⟩, hkp, e, e5, e7, ea, eb⟩ := h
  have hbd := hWf.1
  have lV : ∀ i j, (i ≠ 0 ∨ (j ≠ 2 ∧ j ≠ 4)) → st (st V 0 2 (nI k)) 0 4 (V 0 4 + x) i j = V i j := fun i j hi => by rw [st_ne (by omega), st_ne (by omega)]
  refine ⟨⟨⟨?_, ?_, ?_, ?_, ?_, ?_, ?_, ?_, ?_, ?_⟩, ?_, ?_, ?_, ?_, ?_⟩, hWf⟩
  · rw [lV _ _ (by omega)]; exact a1
  · rw [e _ (by omega) (by omega) (by omega)]; exact a2
  · rw [lV _ _ (by omega)]; exact a3
  · rw [e _ (by omega) (by omega) (by omega)]; exact a4
  · rw [st_ne (by omega)]; exact st_eq
  · rw [e5]; congr 1; omega
  · rw [lV _ _ (by omega), e _ (by omega) (by omega) (by omega)]; exact a7
  · rw [lV _ _ (by omega), e _ (by omega) (by omega) (by omega)]; exact a8
  · rw [lV _ _ (by omega), e _ (by omega) (by omega) (by omega)]; exact a9
  · rw [st_eq, e7, a10]
  · intro w r hw hr; rw [lV _ _ (by omega), e _ (by omega) (by omega) (by omega)]; exact hb w r hw hr
  · intro w hw; rw [lV _ _ (by omega), hc w hw]; exact bl_congr n (fun g hg => (e _ (by omega) (by omega) (by omega)).symm)
  · intro w r x1 x2 x3 x4; rw [lV _ _ (by omega)]; exact he w r x1 x2 x3 x4
  · intro i r hi hr; rw [lV _ _ (by omega), e _ (by omega) (by omega) (by omega)]; exact hf i r hi hr
  · intro i r hi hr; rw [lV _ _ (by omega), ea i r hi hr]; exact hg i r (by omega) hr
theorem mo_congr {N M : Nat → Int32} {w0 g : Nat} (he : ∀ j, j < 152 → j ≠ 5 → j ≠ 7 → N j = M j) (hg : g < 12) : mo N w0 g = mo M w0 g := by
  unfold mo
  rw [he _ (by omega) (by omega) (by omega), he (8 + 12 * g + 3) (by omega) (by omega) (by omega)]
theorem abv_congr {N M : Nat → Int32} {g : Nat} (he : ∀ j, j < 152 → j ≠ 5 → j ≠ 7 → N j = M j) (hg : g < 12) : abv N g = abv M g := by
  unfold abv
  rw [he _ (by omega) (by omega) (by omega)]
theorem abl_congr {N M : Nat → Int32} {w0 n : Nat} (hn : n ≤ 12) (hW : ∀ w, w < n → WW N w) (he : ∀ j, j < 152 → j ≠ 5 → j ≠ 7 → N j = M j) : ∀ f g, g < n → abl N w0 f g = abl M w0 f g := by
  intro f
  induction f with
  | zero => intro g _; rfl
  | succ f ih =>
    intro g hg
    show (mo N w0 g).toInt + (if g = 0 then 0 else abl N w0 f (abv N g)) = (mo M w0 g).toInt + (if g = 0 then 0 else abl M w0 f (abv M g))
    rw [mo_congr he (by omega)]
    by_cases c : g = 0
    · rw [if_pos c, if_pos c]
    · rw [if_neg c, if_neg c, ih (abv N g) (by have := (abv_eq (hW g hg) (by omega) (by omega)).2; omega), abv_congr he (by omega)]
theorem shr_congr {N M : Nat → Int32} {w0 n : Nat} (hn : n ≤ 12) (hW : ∀ w, w < n → WW N w) (he : ∀ j, j < 152 → j ≠ 5 → j ≠ 7 → N j = M j) : ∀ f g (y : Int32) (S : Nat → Int32), g < n → shr N w0 f g y S = shr M w0 f g y S := by
  intro f
  induction f with
  | zero => intro g y S _; rfl
  | succ f ih =>
    intro g y S hg
    show (if g = 0 then upd S g (jmin y (mo N w0 g)) else shr N w0 f (abv N g) (y - jmin y (mo N w0 g)) (upd S g (jmin y (mo N w0 g)))) = (if g = 0 then upd S g (jmin y (mo M w0 g)) else shr M w0 f (abv M g) (y - jmin y (mo M w0 g)) (upd S g (jmin y (mo M w0 g))))
    rw [mo_congr he (by omega)]
    by_cases c : g = 0
    · rw [if_pos c, if_pos c]
    · rw [if_neg c, if_neg c, ih (abv N g) _ _ (by have := (abv_eq (hW g hg) (by omega) (by omega)).2; omega), abv_congr he (by omega)]
theorem PW_at {N M S : Nat → Int32} {w0 n j : Nat} (h : N j = M j) : PW N w0 n S j = PW M w0 n S j := by
  unfold PW
  rw [h]
theorem J.take {n d q : Nat} {T : Int} {k p : Nat} {x : Int32} {V Vm : FV} {M N : Nat → Int32} (h : J n d q T k p x V M N) {w0 : Nat} (hw : w0 < n) {b : Int32} (hb0 : 0 ≤ b.toInt) (hp : b.toInt ≤ abl M w0 12 w0) :
    ∃ (l l' : Int32) (V' : FV) (M' N' : Nat → Int32), f_X0_pourShares (sS V (shr M w0 12 w0 b (S0 V))) (nI w0) = some (l, V') ∧ f_X4_takes (sM Vm N) (nI w0) b = some (l', sM Vm N') ∧ J n d q T k p x V' M' N' ∧ (∀ c, Cl n c N → Cl n c N') ∧ (∀ j, (j < 6 ∨ j = 7 ∨ 152 ≤ j) → N' j = N j) ∧ M' 7 = M 7 := by
  have hWf := h.wf
  obtain ⟨hO, hkp, e, e5, e7, ea, eb⟩ := h
  have hb := hO.2.1
  have he : ∀ j, j < 152 → j ≠ 5 → j ≠ 7 → N j = M j := fun j h1 h2 h3 => e j (by omega) h2 h3
  obtain ⟨l, V', e1, e2, e3, e4, e9, e6⟩ := take_exp (Vm := Vm) hO hw hb0 hp
  have hsc := shr_congr (w0 := w0) hb.1 hWf.2.2.2.2.1 he 12 w0 b (S0 V) hw
  have tk := takes_eq (Vm := Vm) hWf hw (b := b) (S := S0 V) S0_0
  rw [hsc] at tk
  have lo : ∀ j, (j < 6 ∨ j = 7 ∨ 152 ≤ j) → upd (PW N w0 n (shr M w0 12 w0 b (S0 V))) 6 (N 6 + b) j = N j := fun j hj => by
    rw [upd_ne (by omega), PW_far (by omega)]
  refine ⟨l, _, V', _, _, e1, tk, ⟨e3, hkp, ?_, ?_, ?_, ?_, ?_⟩, ?_, lo, ?_⟩
  · intro j h1 h2 h3
    by_cases c : j = 6
    · subst c; rw [upd_eq, upd_eq, e 6 (by omega) (by omega) (by omega)]
    · rw [upd_ne c, upd_ne c]; exact PW_at (e j h1 h2 h3)
  · rw [lo 5 (by omega)]; exact e5
  · rw [lo 7 (by omega), e9 7 (by omega)]; exact e7
  · intro i r hi hr; rw [lo _ (by omega), e9 _ (by omega)]; exact ea i r hi hr
  · intro i r hi hr; rw [lo _ (by omega), e9 _ (by omega)]; exact eb i r hi hr
  · intro c hc
    exact hc.far (fun w hw => by rw [upd_ne (by omega)]; exact PW_keep hw (by omega) (by omega) (by omega) (by omega))
  · exact e9 7 (by omega)
