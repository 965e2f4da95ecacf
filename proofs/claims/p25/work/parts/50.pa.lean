/-! ===== THE PURE PART: numbers ===== -/
theorem fb_rng (x : Int32) : -2147483648 ≤ x.toInt ∧ x.toInt < 2147483648 := by
  have h1 := Int32.le_toInt x
  have h2 := Int32.toInt_lt x
  omega
theorem fb_bmod {z : Int} (h1 : -2147483648 ≤ z) (h2 : z < 2147483648) : z.bmod (2 ^ 32) = z := by
  rw [Int.bmod_eq_of_le (by omega) (by omega)]
theorem fb_addI {x y : Int32} (h1 : -2147483648 ≤ x.toInt + y.toInt) (h2 : x.toInt + y.toInt < 2147483648) : (x + y).toInt = x.toInt + y.toInt := by
  rw [Int32.toInt_add, fb_bmod h1 h2]
theorem fb_subI {x y : Int32} (h1 : -2147483648 ≤ x.toInt - y.toInt) (h2 : x.toInt - y.toInt < 2147483648) : (x - y).toInt = x.toInt - y.toInt := by
  rw [Int32.toInt_sub, fb_bmod h1 h2]
theorem fb_negI {x : Int32} (h : x.toInt ≠ -2147483648) : (-x).toInt = -x.toInt := by
  have := fb_rng x
  rw [Int32.toInt_neg, fb_bmod (by omega) (by omega)]
theorem i_lt {x y : Int32} : x < y ↔ x.toInt < y.toInt := Int32.lt_iff_toInt_lt
theorem i_le {x y : Int32} : x ≤ y ↔ x.toInt ≤ y.toInt := Int32.le_iff_toInt_le
theorem i_eq {x y : Int32} : x = y ↔ x.toInt = y.toInt := ⟨fun h => by rw [h], Int32.toInt_inj.mp⟩
theorem i_0 : (0 : Int32).toInt = 0 := rfl
theorem jmin_toInt (x y : Int32) : (jmin x y).toInt = min x.toInt y.toInt := by
  unfold jmin
  by_cases h : y < x
  · rw [if_pos h]
    rw [i_lt] at h
    omega
  · rw [if_neg h]
    rw [i_lt] at h
    omega
theorem least_eq (x y : Int32) : f_X4_least x y = some (jmin x y) := by
  unfold f_X4_least jmin
  by_cases h : y < x
  · rw [if_pos h, if_pos (by rw [i_lt] at h; rw [i_le]; omega)]
  · rw [if_neg h]
    by_cases h2 : y ≤ x
    · rw [if_pos h2]
      have : y = x := by rw [i_eq]; rw [i_lt] at h; rw [i_le] at h2; omega
      rw [this]
    · rw [if_neg h2]
theorem rd_nI {n j : Nat} {f : Nat → Int32} (h : j < n) (hn : n < 2147483648) : rd n f (nI j) = some (f j) := by
  unfold rd
  rw [if_neg (nI_in h hn), nI_clamp (by omega)]
theorem wr_nI {n k j : Nat} {V : FV} {x : Int32} (h : j < n) (hn : n < 2147483648) : wr n V k (nI j) x = some (st V k j x) := by
  unfold wr
  rw [if_neg (nI_in h hn), nI_clamp (by omega)]
theorem ix_nI {n j : Nat} (h : j < n) (hn : n < 2147483648) : ix n (nI j) = some j := by
  unfold ix
  rw [if_neg (nI_in h hn), nI_clamp (by omega)]
theorem nz_of {y : Int32} (h : ¬ y = 0) : nz y = some () := if_neg h
theorem bz_0 : bz 0 = some () := if_pos (Or.inl rfl)
theorem bz_1 : bz 1 = some () := if_pos (Or.inr rfl)
theorem b2_mk {α β γ : Type} (a : α) (b : β) (k : α → β → Option γ) : b2 (some (a, b)) k = k a b := rfl
theorem lt1_mk {α β : Type} (x : α) (k : α → β) : lt1 x k = k x := rfl
theorem ob_s {α β : Type} (a : α) (k : α → Option β) : (some a).bind k = k a := rfl
theorem FUEL_ge {k : Nat} (h : k ≤ 1000000) : ∃ m, FUEL = m + k := ⟨FUEL - k, by have : FUEL = 1000000 := rfl; omega⟩
theorem st_at (V : FV) (i j : Nat) (x : Int32) (a b : Nat) : st V i j x a b = if a = i ∧ b = j then x else V a b := by
  unfold st upd
  by_cases h : a = i
  · subst h
    by_cases h2 : b = j
    · simp [h2]
    · simp [h2]
  · simp [h]
theorem st_ne {V : FV} {i j : Nat} {x : Int32} {a b : Nat} (h : a ≠ i ∨ b ≠ j) : st V i j x a b = V a b := by
  rw [st_at, if_neg (by omega)]
theorem st_eq {V : FV} {i j : Nat} {x : Int32} : st V i j x i j = x := by rw [st_at, if_pos ⟨rfl, rfl⟩]
theorem upd_at (f : Nat → Int32) (k : Nat) (x : Int32) (j : Nat) : upd f k x j = if j = k then x else f j := rfl
theorem upd_eq {f : Nat → Int32} {k : Nat} {x : Int32} : upd f k x k = x := if_pos rfl
theorem upd_ne {f : Nat → Int32} {k j : Nat} {x : Int32} (h : j ≠ k) : upd f k x j = f j := if_neg h
/-! the reference's row of numbers -/
def sM (V : FV) (N : Nat → Int32) : FV := fun a => if a = 1 then N else V a
theorem sM_1 {V : FV} {N : Nat → Int32} : sM V N 1 = N := rfl
theorem sM_sM {V : FV} {N N' : Nat → Int32} : sM (sM V N) N' = sM V N' := by
  funext a
  unfold sM
  by_cases h : a = 1
  · rw [if_pos h, if_pos h]
  · rw [if_neg h, if_neg h, if_neg h]
theorem sM_self {V : FV} : sM V (V 1) = V := by
  funext a
  unfold sM
  by_cases h : a = 1
  · rw [if_pos h, h]
  · rw [if_neg h]
theorem st_sM {V : FV} {j : Nat} {x : Int32} : st V 1 j x = sM V (upd (V 1) j x) := rfl
theorem st_sM2 {V : FV} {N : Nat → Int32} {j : Nat} {x : Int32} : st (sM V N) 1 j x = sM V (upd N j x) := by
  rw [st_sM, sM_sM]; rfl
theorem ix_well (w k : Nat) : ((8 : Int32) + 12 * nI w) + nI k = nI (8 + 12 * w + k) := by
  rw [show (8 : Int32) = nI 8 from rfl, show (12 : Int32) = nI 12 from rfl, pk_mul, nI_add, nI_add]
theorem of_eq {V : FV} {w k : Nat} (hw : w < 12) (hk : k < 12) : f_X4_of V (nI w) (nI k) = some (V 1 (8 + 12 * w + k)) := by
  unfold f_X4_of
  rw [ix_well, rd_nI (by omega) (by omega)]
  rfl
def ad (N : Nat → Int32) (w k : Nat) (x : Int32) : Nat → Int32 := upd N (8 + 12 * w + k) (N (8 + 12 * w + k) + x)
theorem adds_eq {V : FV} {w k : Nat} {x : Int32} (hw : w < 12) (hk : k < 12) : f_X4_adds V (nI w) (nI k) x = some (sM V (ad (V 1) w k x)) := by
  unfold f_X4_adds
  rw [ix_well, rd_nI (by omega) (by omega), ob_s, wr_nI (by omega) (by omega), ob_s]
  rfl
theorem adds_eqM {V : FV} {N : Nat → Int32} {w k : Nat} {x : Int32} (hw : w < 12) (hk : k < 12) : f_X4_adds (sM V N) (nI w) (nI k) x = some (sM V (ad N w k x)) := by
  rw [adds_eq hw hk, sM_sM]; rfl
theorem of_eqM {V : FV} {N : Nat → Int32} {w k : Nat} (hw : w < 12) (hk : k < 12) : f_X4_of (sM V N) (nI w) (nI k) = some (N (8 + 12 * w + k)) := of_eq hw hk
theorem ad_at (N : Nat → Int32) (w k : Nat) (x : Int32) (j : Nat) : ad N w k x j = if j = 8 + 12 * w + k then N j + x else N j := by
  unfold ad
  rw [upd_at]
  by_cases h : j = 8 + 12 * w + k
  · rw [if_pos h, if_pos h, h]
  · rw [if_neg h, if_neg h]
theorem ad_eq {N : Nat → Int32} {w k : Nat} {x : Int32} : ad N w k x (8 + 12 * w + k) = N (8 + 12 * w + k) + x := by rw [ad_at, if_pos rfl]
theorem ad_ne {N : Nat → Int32} {w k : Nat} {x : Int32} {j : Nat} (h : j ≠ 8 + 12 * w + k) : ad N w k x j = N j := by rw [ad_at, if_neg h]
theorem ad_w {N : Nat → Int32} {w k g r : Nat} {x : Int32} (hk : k < 12) (hr : r < 12) : ad N w k x (8 + 12 * g + r) = if g = w ∧ r = k then N (8 + 12 * g + r) + x else N (8 + 12 * g + r) := by
  rw [ad_at]
  by_cases h : g = w ∧ r = k
  · rw [if_pos h, if_pos (by omega)]
  · rw [if_neg h, if_neg (by omega)]
theorem half_eq {V : FV} {w : Nat} (hw : w < 12) : f_X4_half V (nI w) = some (V 1 (8 + 12 * w + 1) / 2) := by
  unfold f_X4_half
  rw [show (1 : Int32) = nI 1 from rfl, of_eq hw (by omega), ob_s]
theorem room_eq {V : FV} {w : Nat} (hw : w < 12) : f_X4_room V (nI w) = some (V 1 (8 + 12 * w + 1) - V 1 (8 + 12 * w + 4)) := by
  unfold f_X4_room
  rw [show (1 : Int32) = nI 1 from rfl, show (4 : Int32) = nI 4 from rfl, of_eq hw (by omega), ob_s, of_eq hw (by omega), ob_s]
/-! a number that is a well's, or isn't -/
theorem ix_case (n : Nat) (hn : n ≤ 12) (p : Int32) : (∃ j, j < n ∧ p = nI j) ∨ (p < 0 ∨ nI n ≤ p) := by
  rcases pk_ix p (n := n) (by omega) with h | h | h
  · exact Or.inr (Or.inl h)
  · exact Or.inr (Or.inr h)
  · exact Or.inl h
theorem x0_isWell_y {V : FV} {n j : Nat} (h : V 0 0 = nI n) (hn : n ≤ 12) (hj : j < n) : f_X0_isWell V (nI j) = some 1 := by
  unfold f_X0_isWell
  rw [if_neg (nI_pos (by omega)), h, if_neg (nI_ge hj (by omega))]
theorem x0_isWell_n {V : FV} {n : Nat} {p : Int32} (h : V 0 0 = nI n) (hp : p < 0 ∨ nI n ≤ p) : f_X0_isWell V p = some 0 := by
  unfold f_X0_isWell
  rw [h]
  rcases hp with hp | hp
  · rw [if_pos hp]
  · by_cases q : p < 0
    · rw [if_pos q]
    · rw [if_neg q, if_pos hp]
theorem nI_m1 {n : Nat} (hn : n ≤ 100) : (nI n - 1).toInt = (n : Int) - 1 := pk_sub_toInt (b := 1) (by omega) (by omega)
theorem in_y {a lo hi : Int32} (h1 : ¬ a < lo) (h2 : ¬ hi < a) : f_X4_in a lo hi = some 1 := by
  unfold f_X4_in
  rw [if_neg h1, if_neg h2]
theorem in_n {a lo hi : Int32} (h : a < lo ∨ hi < a) : f_X4_in a lo hi = some 0 := by
  unfold f_X4_in
  by_cases h1 : a < lo
  · rw [if_pos h1]
  · rw [if_neg h1]
    rcases h with h | h
    · exact absurd h h1
    · rw [if_pos h]
theorem x4_isWell_y {V : FV} {n j : Nat} (h : V 1 3 = nI n) (hn : n ≤ 12) (hj : j < n) : f_X4_isWell V (nI j) = some 1 := by
  unfold f_X4_isWell
  rw [h, in_y (nI_pos (by omega)) (by rw [i_lt, nI_m1 (by omega), nI_toInt (by omega)]; omega), ob_s, bz_1, ob_s]
theorem x4_isWell_n {V : FV} {n : Nat} {p : Int32} (h : V 1 3 = nI n) (hn : n ≤ 12) (hp : p < 0 ∨ nI n ≤ p) : f_X4_isWell V p = some 0 := by
  unfold f_X4_isWell
  rw [h, in_n, ob_s, bz_0, ob_s]
  rcases hp with hp | hp
  · exact Or.inl hp
  · right
    rw [i_le, nI_toInt (by omega)] at hp
    rw [i_lt, nI_m1 (by omega)]
    omega
/-! ===== the relation of a field to the reference's row ===== -/
def bl (N : Nat → Int32) (p : Int32) : Nat → Int32
  | 0 => 0
  | k + 1 => bl N p k + (if N (8 + 12 * k) = p then 1 else 0)
def Rel (n d q : Nat) (V : FV) (N : Nat → Int32) : Prop :=
  (V 0 0 = nI n ∧ N 3 = nI n ∧ V 0 1 = nI d ∧ N 4 = nI d ∧ V 0 2 = nI q ∧ N 5 = nI q ∧ V 0 3 = N 0 ∧ V 4 0 = N 1 ∧ V 4 1 = N 2 ∧ V 0 4 = N 7) ∧
  (∀ w r, w < n → r < 12 → V (6 + r) w = N (8 + 12 * w + r)) ∧
  (∀ w, w < n → V 18 w = bl N (nI w) n) ∧
  (∀ w r, n ≤ w → w < 12 → 4 ≤ r → r < 13 → V (6 + r) w = 0) ∧
  (∀ i k, i < d → k < 3 → V (19 + k) i = N (152 + 3 * i + k)) ∧
  (∀ i k, i < q → k < 3 → V (22 + k) i = N (212 + 3 * i + k))
def WW (N : Nat → Int32) (w : Nat) : Prop :=
  (w = 0 → N (8 + 12 * w) = -1) ∧ (0 < w → ∃ a, a < w ∧ N (8 + 12 * w) = nI a) ∧
  (1 ≤ (N (8 + 12 * w + 1)).toInt ∧ (N (8 + 12 * w + 1)).toInt ≤ 1000) ∧ (0 ≤ (N (8 + 12 * w + 2)).toInt ∧ (N (8 + 12 * w + 2)).toInt ≤ 100) ∧ (0 ≤ (N (8 + 12 * w + 3)).toInt ∧ (N (8 + 12 * w + 3)).toInt ≤ 1000) ∧
  (0 ≤ (N (8 + 12 * w + 4)).toInt ∧ (N (8 + 12 * w + 4)).toInt ≤ (N (8 + 12 * w + 1)).toInt)
/-- the claims lie in 0 .. c -/
def Cl (n : Nat) (c : Int) (N : Nat → Int32) : Prop := ∀ w, w < n → 0 ≤ (N (8 + 12 * w + 5)).toInt ∧ (N (8 + 12 * w + 5)).toInt ≤ c
def ds (N : Nat → Int32) : Nat → Int32
  | 0 => 0
  | k + 1 => ds N k + (N (8 + 12 * k + 8) + N (8 + 12 * k + 9))
def Wf (n d q : Nat) (T : Int) (N : Nat → Int32) : Prop :=
  (n ≤ 12 ∧ d ≤ 20 ∧ q ≤ 8) ∧ (0 ≤ (N 0).toInt ∧ (N 0).toInt ≤ T) ∧ (4 ≤ (N 1).toInt ∧ (N 1).toInt ≤ 100) ∧ (N 2 = 0 ∨ N 2 = 1) ∧
  (∀ w, w < n → WW N w) ∧ (∀ i, i < d → ∃ w, w < n ∧ N (152 + 3 * i) = nI w) ∧ (∀ i, i < q → ∃ w, w < n ∧ N (212 + 3 * i) = nI w) ∧ (∀ i, i < q → 1 ≤ (N (212 + 3 * i + 1)).toInt ∧ (N (212 + 3 * i + 1)).toInt ≤ 999) ∧
  N 6 = ds N n
/-- one number of a well is written on both sides -/
theorem Rel.put {n d q : Nat} {V : FV} {N : Nat → Int32} (h : Rel n d q V N) (hn : n ≤ 12) {w r : Nat} (hw : w < n) (hr : 1 ≤ r) (hr2 : r < 12) (x : Int32) : Rel n d q (st V (6 + r) w x) (upd N (8 + 12 * w + r) x) := by
  obtain ⟨⟨a1, a2, a3, a4, a5, a6, a7, a8, a9, a10⟩, b, c, e, f, g⟩ := h
  have hbl : ∀ p k, bl (upd N (8 + 12 * w + r) x) p k = bl N p k := by
    intro p k
    induction k with
    | zero => rfl
    | succ k ih =>
      show bl (upd N (8 + 12 * w + r) x) p k + _ = bl N p k + _
      rw [ih, upd_ne (by omega)]
  refine ⟨⟨?_, ?_, ?_, ?_, ?_, ?_, ?_, ?_, ?_, ?_⟩, ?_, ?_, ?_, ?_, ?_⟩
  · rw [st_ne (by omega)]; exact a1
  · rw [upd_ne (by omega)]; exact a2
  · rw [st_ne (by omega)]; exact a3
  · rw [upd_ne (by omega)]; exact a4
  · rw [st_ne (by omega)]; exact a5
  · rw [upd_ne (by omega)]; exact a6
  · rw [st_ne (by omega), upd_ne (by omega)]; exact a7
  · rw [st_ne (by omega), upd_ne (by omega)]; exact a8
  · rw [st_ne (by omega), upd_ne (by omega)]; exact a9
  · rw [st_ne (by omega), upd_ne (by omega)]; exact a10
  · intro g k hg hk
    rw [st_at, upd_at]
    by_cases hc : g = w ∧ k = r
    · rw [if_pos (by omega), if_pos (by omega)]
    · rw [if_neg (by omega), if_neg (by omega)]
      exact b g k hg hk
  · intro g hg
    rw [st_ne (by omega), hbl]
    exact c g hg
  · intro g k h1 h2 h3 h4
    rw [st_ne (by omega)]
    exact e g k h1 h2 h3 h4
  · intro i k hi hk
    rw [st_ne (by omega)]
    by_cases hd : 152 + 3 * i + k = 8 + 12 * w + r
    · omega
    · rw [upd_ne hd]; exact f i k hi hk
  · intro i k hi hk
    rw [st_ne (by omega), upd_ne (by omega)]
    exact g i k hi hk

theorem ds_upd {N : Nat → Int32} {j : Nat} {x : Int32} (h : ∀ w, j ≠ 8 + 12 * w + 8 ∧ j ≠ 8 + 12 * w + 9) : ∀ k, ds (upd N j x) k = ds N k := by
  intro k
  induction k with
  | zero => rfl
  | succ k ih =>
    show ds (upd N j x) k + _ = ds N k + _
    rw [ih, upd_ne (by have := h k; omega), upd_ne (by have := h k; omega)]
/-- one number of a well, that is not of what was drawn, is written -/
theorem Wf.put {n d q : Nat} {T : Int} {N : Nat → Int32} (h : Wf n d q T N) {w r : Nat} (hw : w < n) (hr : 4 ≤ r) (hr2 : r < 12) (h8 : r ≠ 8) (h9 : r ≠ 9) {x : Int32} (hx : r = 4 → 0 ≤ x.toInt ∧ x.toInt ≤ (N (8 + 12 * w + 1)).toInt) : Wf n d q T (upd N (8 + 12 * w + r) x) := by
  obtain ⟨hb, h0, h1, h2, hW, hD, hQ, hQ2, h6⟩ := h
  refine ⟨hb, ?_, ?_, ?_, ?_, ?_, ?_, ?_, ?_⟩
  · rw [upd_ne (by omega)]; exact h0
  · rw [upd_ne (by omega)]; exact h1
  · rw [upd_ne (by omega)]; exact h2
  · intro g hg
    obtain ⟨a1, a2, a3, a4, a5, a6⟩ := hW g hg
    refine ⟨fun e => ?_, fun e => ?_, ?_, ?_, ?_, ?_⟩
    · rw [upd_ne (by omega)]; exact a1 e
    · obtain ⟨a, ha, hb⟩ := a2 e
      exact ⟨a, ha, by rw [upd_ne (by omega)]; exact hb⟩
    · rw [upd_ne (by omega)]; exact a3
    · rw [upd_ne (by omega)]; exact a4
    · rw [upd_ne (by omega)]; exact a5
    · by_cases hc : 8 + 12 * g + 4 = 8 + 12 * w + r
      · have hgw : g = w := by omega
        have hr4 : r = 4 := by omega
        subst hgw; subst hr4
        rw [upd_eq, upd_ne (by omega)]
        exact hx rfl
      · rw [upd_ne hc, upd_ne (by omega)]; exact a6
  · intro i hi
    obtain ⟨a, ha, hb⟩ := hD i hi
    exact ⟨a, ha, by rw [upd_ne (by omega)]; exact hb⟩
  · intro i hi
    obtain ⟨a, ha, hb⟩ := hQ i hi
    exact ⟨a, ha, by rw [upd_ne (by omega)]; exact hb⟩
  · intro i hi
    rw [upd_ne (by omega)]
    exact hQ2 i hi
  · rw [upd_ne (by omega), ds_upd (by intro g; omega)]
    exact h6
theorem Cl.put {n : Nat} {c : Int} {N : Nat → Int32} (h : Cl n c N) {w r : Nat} (hr : r < 12) (h5 : r ≠ 5) {x : Int32} : Cl n c (upd N (8 + 12 * w + r) x) := by
  intro g hg
  rw [upd_ne (by omega)]
  exact h g hg
theorem Cl.put5 {n : Nat} {c : Int} {N : Nat → Int32} (h : Cl n c N) {w : Nat} {x : Int32} (hx : 0 ≤ x.toInt ∧ x.toInt ≤ c) : Cl n c (upd N (8 + 12 * w + 5) x) := by
  intro g hg
  by_cases hc : g = w
  · subst hc; rw [upd_eq]; exact hx
  · rw [upd_ne (by omega)]; exact h g hg
