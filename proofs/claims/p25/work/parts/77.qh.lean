/-! ===== what a well, a request, the time tell ===== -/
section WO
variable {N : NN} {hs : List NN} {tx : List Nat} {v1 v2 v3 : FV} {G : Nat → FV}
theorem wo_k (h : AS N hs tx v1 G v3) {w k : Nat} (hw : w < nW N) (h1 : 1 ≤ k) (h2 : k < 12) : f_X3_wellOf v1 v2 G v3 (nI w) (nI k) = some (N (8 + 12 * w + k)) := by
  have hb := h.1.b
  unfold f_X3_wellOf
  rw [isW_y h.1 hw, ob_s, if_neg n10, if_neg (nI_pos (by omega)), if_pos (show nI k ≤ (13 : Int32) from nI_le (b := 13) (by omega) (by omega)), if_neg (show ¬ nI k = (13 : Int32) from fun e => by have := (nI_eq (a := k) (b := 13) (by omega) (by omega)).mp e; omega), if_neg (show ¬ nI k = 0 from nI_ne0 h1 (by omega)),
    ix_nI (by omega) (by omega), ob_s, rd_nI (by omega) (by omega), ob_s, h.1.1.2.1 w k hw h2]
theorem wo_0 (h : AS N hs tx v1 G v3) {w : Nat} (hw : w < nW N) (h0 : 0 < w) : f_X3_wellOf v1 v2 G v3 (nI w) 0 = some (N (8 + 12 * w)) := by
  have hb := h.1.b
  unfold f_X3_wellOf
  rw [isW_y h.1 hw, ob_s, if_neg n10, if_neg (by decide), if_pos (by decide), if_neg (by decide), if_pos rfl, if_neg (nI_ne0 h0 (by omega)), show (0 : Int32) = nI 0 from rfl, ix_nI (by omega) (by omega), ob_s, rd_nI (by omega) (by omega), ob_s]
  have := h.1.1.2.1 w 0 hw (by omega)
  rw [this]
  rfl
theorem wo_spring (h : AS N hs tx v1 G v3) (hw : 0 < nW N) : f_X3_wellOf v1 v2 G v3 0 0 = some (-4) := by
  unfold f_X3_wellOf
  rw [show f_X0_isWell v1 0 = some 1 from isW_y (w := 0) h.1 hw, ob_s, if_neg n10, if_neg (by decide), if_pos (by decide), if_neg (by decide), if_pos rfl, if_pos rfl]
theorem wo_12 (h : AS N hs tx v1 G v3) {w : Nat} (hw : w < nW N) : f_X3_wellOf v1 v2 G v3 (nI w) 12 = some (bl N (nI w) (nW N)) := by
  have hb := h.1.b
  unfold f_X3_wellOf
  rw [isW_y h.1 hw, ob_s, if_neg n10, if_neg (by decide), if_pos (by decide), if_neg (by decide), if_neg (by decide), show (12 : Int32) = nI 12 from rfl, show ix 13 (nI 12) = some 12 from ix_nI (by omega) (by omega), ob_s, rd_nI (by omega) (by omega), ob_s]
  have := h.1.1.2.2.1 w hw
  rw [show (6 + 12 : Nat) = 18 from rfl, this]
theorem wo_bad (h : AS N hs tx v1 G v3) {p k : Int32} (hp : p < 0 ∨ nI (nW N) ≤ p) : f_X3_wellOf v1 v2 G v3 p k = some (-1) := by
  unfold f_X3_wellOf
  rw [isW_n h.1 hp, ob_s, if_pos rfl]
theorem wo_14 (h : AS N hs tx v1 G v3) (hw : 0 < nW N) : f_X3_wellOf v1 v2 G v3 0 14 = some (-1) := by
  unfold f_X3_wellOf
  rw [show f_X0_isWell v1 0 = some 1 from isW_y (w := 0) h.1 hw, ob_s, if_neg n10, if_neg (by decide), if_neg (by decide)]
/-! the row of requests -/
theorem rq_k (h : AS N hs tx v1 G v3) {i k : Nat} (hi : i < nQ N) (hk : k < 3) : f_X3_requestAt v1 v2 G v3 (nI (i + 1)) (nI k) = some (N (212 + 3 * i + k)) := by
  have hb := h.1.b
  unfold f_X3_requestAt
  rw [x0_place_y h.1.1 hb.2.2 hi, ob_s, if_neg n10, if_neg (nI_pos (by omega)), if_pos (show nI k < (3 : Int32) from nI_lt (b := 3) hk (by omega)), ix_nI (by omega) (by omega), ob_s, nI_sub1, rd_nI (by omega) (by omega), ob_s, h.1.1.2.2.2.2.2 i k hi hk]
theorem rq_bad (h : AS N hs tx v1 G v3) {p k : Int32} (hp : p < 1 ∨ nI (nQ N) < p) : f_X3_requestAt v1 v2 G v3 p k = some (-1) := by
  unfold f_X3_requestAt
  rw [x0_place_n h.1.1 hp, ob_s, if_pos rfl]
theorem dr_k (h : AS N hs tx v1 G v3) {i : Nat} (hi : i < nD N) : f_X3_droughtOf v1 v2 G v3 (nI i) 0 = some (N (152 + 3 * i)) := by
  have hb := h.1.b
  unfold f_X3_droughtOf
  rw [if_neg (nI_pos (by omega)), h.1.1.1.2.2.1, if_neg (nI_ge hi (by omega)), if_neg (by decide), if_pos (by decide), show (0 : Int32) = nI 0 from rfl, ix_nI (by omega) (by omega), ob_s, rd_nI (by omega) (by omega), ob_s]
  exact congrArg some (h.1.1.2.2.2.2.1 i 0 hi (by omega))
theorem dr_bad (h : AS N hs tx v1 G v3) : f_X3_droughtOf v1 v2 G v3 (nI (nD N)) 0 = some (-1) := by
  have hb := h.1.b
  unfold f_X3_droughtOf
  rw [if_neg (nI_pos (by omega)), h.1.1.1.2.2.1, if_pos (nI_le (Nat.le_refl _) (by omega))]
/-! the wells above -/
def upN (N : NN) : Nat → Nat → Nat
  | 0, w => w
  | k + 1, w => abv N (upN N k w)
theorem upN_lt (h : K2 v1 N) {w : Nat} (hw : w < nW N) : ∀ k, (∀ j, j < k → 0 < upN N j w) → upN N k w + k ≤ w := by
  intro k
  induction k with
  | zero => intro _; exact Nat.le_refl _
  | succ k ih =>
    intro hp
    have h1 := ih (fun j hj => hp j (by omega))
    have h2 := hp k (by omega)
    have hb := h.b
    have := (abv_eq (h.2.1.2.2.2.2.1 (upN N k w) (by omega)) h2 (by omega)).2
    show abv N (upN N k w) + (k + 1) ≤ w
    omega
theorem up_above (h : K2 v1 N) {g : Nat} (hg : g < nW N) : N (8 + 12 * g) = if g = 0 then -1 else nI (abv N g) := by
  have hW := h.2.1.2.2.2.2.1 g hg
  have hb := h.b
  by_cases c : g = 0
  · rw [if_pos c]; exact hW.1 c
  · rw [if_neg c]; exact (abv_eq hW (by omega) (by omega)).1
theorem above_loopX (h : K2 v1 N) {w k : Nat} (hw : w < nW N) (hp : ∀ j, j < k → 0 < upN N j w) {y1 y2 : Int32} : ∀ (t i m : Nat), i + t = k → f_X0_wellAbove_L20 v1 (m + t + 1) y1 y2 (nI k) (N (8 + 12 * upN N i w)) (nI i) = some (N (8 + 12 * upN N k w)) := by
  have hb := h.b
  have hk := upN_lt h hw k hp
  intro t
  induction t with
  | zero =>
    intro i m hi
    have hi : i = k := by omega
    subst hi
    show (if nI i ≤ nI i then _ else _) = _
    rw [if_pos (nI_le (Nat.le_refl _) (by omega))]
  | succ t ih =>
    intro i m hi
    have h1 := upN_lt h hw i (fun j hj => hp j (by omega))
    have h2 := hp i (by omega)
    have ea := up_above h (g := upN N i w) (by omega)
    rw [if_neg (by omega)] at ea
    have hlt := (abv_eq (h.2.1.2.2.2.2.1 (upN N i w) (by omega)) h2 (by omega)).2
    show (if nI k ≤ nI i then _ else ((f_X0_isWell v1 (N (8 + 12 * upN N i w))).bind fun x4 => (if x4 = 0 then _ else ((rd 12 (v1 6) (N (8 + 12 * upN N i w))).bind fun x6 => (f_X0_wellAbove_L20 v1 (m + t + 1) y1 y2 (nI k) x6 (nI i + 1)))))) = _
    rw [if_neg (nI_ge (by omega) (by omega)), ea, isW_y h (by omega), ob_s, if_neg n10, rd_nI (by omega) (by omega), ob_s, nI_1]
    have := h.1.2.1 (abv N (upN N i w)) 0 (by omega) (by omega)
    rw [show v1 6 (abv N (upN N i w)) = N (8 + 12 * abv N (upN N i w)) from this]
    exact ih (i + 1) m (by omega)
theorem above_val (h : AS N hs tx v1 G v3) {w k : Nat} (hw : w < nW N) (hp : ∀ j, j < k → 0 < upN N j w) : f_X3_aboveAt v1 v2 G v3 (nI w) (nI k) = some (if upN N k w = 0 then -4 else nI (upN N (k + 1) w)) := by
  have hb := h.1.b
  have hk := upN_lt h.1 hw k hp
  obtain ⟨m, hm⟩ := FUEL_ge (k := k + 1) (by omega)
  have hj : jmin (nI k) 12 = nI k := by
    unfold jmin
    rw [if_neg (show ¬ (12 : Int32) < nI k by rw [i_lt, nI_toInt (by omega), show (12 : Int32).toInt = 12 from rfl]; omega)]
  have hl := above_loopX h.1 hw hp (y1 := nI w) (y2 := nI k) k 0 m (by omega)
  have h6 : v1 6 w = N (8 + 12 * w) := h.1.1.2.1 w 0 hw (by omega)
  unfold f_X3_aboveAt f_X0_wellAbove
  rw [isW_y h.1 hw, ob_s, if_neg n10, if_pos (show (0 : Int32) ≤ nI k from nI_le (a := 0) (by omega) (by omega)), hj, lt1_mk, rd_nI (by omega) (by omega), ob_s, hm, h6]
  have hl : f_X0_wellAbove_L20 v1 (m + (k + 1)) (nI w) (nI k) (nI k) (N (8 + 12 * w)) 0 = some (N (8 + 12 * upN N k w)) := hl
  rw [hl, ob_s, up_above h.1 (g := upN N k w) (by omega)]
  by_cases c : upN N k w = 0
  · rw [if_pos c, if_pos c, if_pos rfl]
  · rw [if_neg c, if_neg c, if_neg (fun e => by
      have e := congrArg Int32.toInt e
      have := (abv_eq (h.1.2.1.2.2.2.2.1 (upN N k w) (by omega)) (by omega) (by omega)).2
      rw [nI_toInt (by omega), show (-1 : Int32).toInt = -1 from rfl] at e
      omega)]
    rfl
theorem above_bad (h : AS N hs tx v1 G v3) {p k : Int32} (hp : p < 0 ∨ nI (nW N) ≤ p) : f_X3_aboveAt v1 v2 G v3 p k = some (-1) := by
  unfold f_X3_aboveAt
  rw [isW_n h.1 hp, ob_s, if_pos rfl]
theorem above_neg (h : AS N hs tx v1 G v3) (hw : 0 < nW N) : f_X3_aboveAt v1 v2 G v3 0 (-1) = some (-1) := by
  unfold f_X3_aboveAt
  rw [show f_X0_isWell v1 0 = some 1 from isW_y (w := 0) h.1 hw, ob_s, if_neg n10, if_neg (by decide)]
end WO
