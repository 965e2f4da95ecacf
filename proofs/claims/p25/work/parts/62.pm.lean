/-! ===== more that only reads ===== -/
theorem droughtOf_sim {n d q : Nat} {T : Int} {V V2 V3 Vm : FV} {G : Nat → FV} (hO : Ok n d q T V (Vm 1)) (p1 p2 : Int32) : ∃ r, f_X3_droughtOf V V2 G V3 p1 p2 = some r ∧ f_X4_droughtOf Vm p1 p2 = some r := by
  have hb := hO.2.1
  unfold f_X3_droughtOf f_X4_droughtOf
  rw [hO.1.1.2.2.1, hO.1.1.2.2.2.1]
  rcases ix_caseN d (by omega) p1 with ⟨i, hi, rfl⟩ | h
  · rw [if_neg (nI_pos (by omega)), if_neg (nI_ge hi (by omega)), inN_y (by omega) hi, ob_s, if_neg (show ¬ (1 : Int32) = 0 by decide)]
    rcases ix_caseN 3 (by omega) p2 with ⟨j, hj, rfl⟩ | h
    · rw [if_neg (nI_pos (by omega)), if_pos (show nI j < 3 by rw [i_lt, nI_toInt (by omega), show (3 : Int32).toInt = 3 from rfl]; omega), show (2 : Int32) = nI 3 - 1 from rfl, inN_y (by omega) hj, ob_s, if_neg (show ¬ (1 : Int32) = 0 by decide), ix_nI (by omega) (by omega), ob_s, rd_nI (by omega) (by omega), ob_s, ix_d, nI_add, rd_nI (by omega) (by omega), ob_s]
      exact ⟨_, rfl, congrArg some (hO.1.2.2.2.2.1 i j hi hj).symm⟩
    · rw [show (2 : Int32) = nI 3 - 1 from rfl, inN_n (by omega) h, ob_s, if_pos (show (0 : Int32) = 0 from rfl)]
      refine ⟨-1, ?_, rfl⟩
      by_cases c : p2 < 0
      · rw [if_pos c]
      · rw [if_neg c, if_neg]
        have := h.resolve_left c
        rw [i_le, nI_toInt (by omega)] at this
        rw [i_lt, show (3 : Int32).toInt = 3 from rfl]
        omega
  · rw [inN_n (by omega) h, ob_s, if_pos rfl]
    refine ⟨-1, ?_, rfl⟩
    by_cases c : p1 < 0
    · rw [if_pos c]
    · rw [if_neg c, if_pos (h.resolve_left c)]
theorem requestAt_sim {n d q : Nat} {T : Int} {V V2 V3 Vm : FV} {G : Nat → FV} (hO : Ok n d q T V (Vm 1)) (p1 p2 : Int32) : ∃ r, f_X3_requestAt V V2 G V3 p1 p2 = some r ∧ f_X4_requestAt Vm p1 p2 = some r := by
  have hb := hO.2.1
  unfold f_X3_requestAt f_X4_requestAt
  rw [show f_X4_isPlace Vm p1 = f_X4_isPlace (sM Vm (Vm 1)) p1 by rw [sM_self]]
  rcases place_case q hb.2.2 p1 with ⟨i, hi, rfl⟩ | h
  · rw [x0_place_y hO.1 hb.2.2 hi, x4_place_y hO.1 hb.2.2 hi, ob_s, ob_s, if_neg (show ¬ (1 : Int32) = 0 by decide), if_neg (show ¬ (1 : Int32) = 0 by decide), nI_sub1]
    rcases ix_caseN 3 (by omega) p2 with ⟨j, hj, rfl⟩ | h
    · rw [if_neg (nI_pos (by omega)), if_pos (show nI j < 3 by rw [i_lt, nI_toInt (by omega), show (3 : Int32).toInt = 3 from rfl]; omega), show (2 : Int32) = nI 3 - 1 from rfl, inN_y (by omega) hj, ob_s, if_neg (show ¬ (1 : Int32) = 0 by decide), ix_nI (by omega) (by omega), ob_s, rd_nI (by omega) (by omega), ob_s, ix_q, nI_add, rd_nI (by omega) (by omega), ob_s]
      exact ⟨_, rfl, congrArg some (hO.1.2.2.2.2.2 i j hi hj).symm⟩
    · rw [show (2 : Int32) = nI 3 - 1 from rfl, inN_n (by omega) h, ob_s, if_pos (show (0 : Int32) = 0 from rfl)]
      refine ⟨-1, ?_, rfl⟩
      by_cases c : p2 < 0
      · rw [if_pos c]
      · rw [if_neg c, if_neg]
        have := h.resolve_left c
        rw [i_le, nI_toInt (by omega)] at this
        rw [i_lt, show (3 : Int32).toInt = 3 from rfl]
        omega
  · rw [x0_place_n hO.1 h, x4_place_n hO.1 h, ob_s, ob_s, if_pos rfl, if_pos rfl]
    exact ⟨-1, rfl, rfl⟩
theorem gives_sim {n d q : Nat} {T : Int} {V V2 V3 Vm : FV} {G : Nat → FV} (hO : Ok n d q T V (Vm 1)) (p1 p2 p3 : Int32) : ∃ (r : Int32) (V' : FV), f_X3_gives V V2 G V3 p1 p2 p3 = some (r, (V', V2, G, V3)) ∧ f_X4_gives Vm p1 p2 p3 = some r ∧ Ok n d q T V' (Vm 1) := by
  have hb := hO.2.1
  unfold f_X3_gives f_X4_gives
  rcases ix_case n hb.1 p1 with ⟨w0, hw, rfl⟩ | hno
  · rw [x0_isWell_y hO.1.1.1 hb.1 hw, x4_isWell_y hO.1.1.2.1 hb.1 hw, ob_s, ob_s, if_neg (show ¬ (1 : Int32) = 0 by decide), if_neg (show ¬ (1 : Int32) = 0 by decide), areB_eq, isDraw_eq, ob_s, ob_s]
    rcases bk_case p2 with h | ⟨h, h1, h2⟩
    · rw [h, if_pos rfl, if_pos rfl]
      exact ⟨-1, V, rfl, rfl, hO⟩
    · rw [h, if_neg (show ¬ (1 : Int32) = 0 by decide), if_neg (show ¬ (1 : Int32) = 0 by decide)]
      rcases ix_case n hb.1 p3 with ⟨w3, hw3, rfl⟩ | hno
      · rw [x0_isWell_y hO.1.1.1 hb.1 hw3, x4_isWell_y hO.1.1.2.1 hb.1 hw3, ob_s, ob_s, if_neg (show ¬ (1 : Int32) = 0 by decide), if_neg (show ¬ (1 : Int32) = 0 by decide), share_eq hO hw, b2_mk]
        obtain ⟨a, ha, hai⟩ := ableOf_eq (V := Vm) rfl hO.2 hw
        have hs := share_toInt hO hw (b := p2) (by omega)
        rw [ha, ob_s]
        by_cases hp : p2.toInt ≤ abl (Vm 1) w0 12 w0
        · obtain ⟨m, hm⟩ := FUEL_ge (k := 13) (by omega)
          rw [if_pos (show p2 - shl (Vm 1) w0 12 w0 p2 = p2 by rw [i_eq, hs]; omega), if_pos (show p2 ≤ a by rw [i_le, hai]; exact hp), hm, rd_nI (by omega) (by omega), ob_s]
          exact ⟨_, _, rfl, gives_loop (S := S0 V) hb.1 hO.2.2.2.2.2.1 (by omega) (by omega) 12 w0 m p2 (by omega) hw (S0_0 w3 (by omega)), ⟨hO.1.sS, hO.2⟩⟩
        · rw [if_neg (show ¬ p2 - shl (Vm 1) w0 12 w0 p2 = p2 by rw [i_eq, hs]; omega), if_neg (show ¬ p2 ≤ a by rw [i_le, hai]; exact hp)]
          exact ⟨-2, _, rfl, rfl, ⟨hO.1.sS, hO.2⟩⟩
      · rw [x0_isWell_n hO.1.1.1 hno, x4_isWell_n hO.1.1.2.1 hb.1 hno, ob_s, ob_s, if_pos rfl, if_pos rfl]
        exact ⟨-1, V, rfl, rfl, hO⟩
  · rw [x0_isWell_n hO.1.1.1 hno, x4_isWell_n hO.1.1.2.1 hb.1 hno, ob_s, ob_s, if_pos rfl, if_pos rfl]
    exact ⟨-1, V, rfl, rfl, hO⟩
def suN (N : Nat → Int32) (r : Nat) : Nat → Int32
  | 0 => 0
  | k + 1 => suN N r k + N (8 + 12 * k + r)
theorem sum0_loop {n d q : Nat} {V : FV} {N : Nat → Int32} (hR : Rel n d q V N) (hn : n ≤ 12) {r : Nat} (hr : r < 12) : ∀ (t i m : Nat), i + t = n → f_X0_sumOf_L4 V (m + t + 1) (nI r) (suN N r i) (nI i) = some (suN N r n) := by
  intro t
  induction t with
  | zero =>
    intro i m h
    have hi : i = n := by omega
    subst hi
    show (if (V 0 0) ≤ nI i then _ else _) = _
    rw [hR.1.1, if_pos (nI_le (Nat.le_refl i) (by omega))]
  | succ t ih =>
    intro i m h
    show (if (V 0 0) ≤ nI i then _ else ((ix 13 (nI r)).bind fun j2 => ((rd 12 (V (6 + j2)) (nI i)).bind fun x3 => (f_X0_sumOf_L4 V (m + t + 1) (nI r) (suN N r i + x3) (nI i + 1))))) = _
    rw [hR.1.1, if_neg (nI_ge (by omega) (by omega)), ix_nI (by omega) (by omega), ob_s, rd_nI (by omega) (by omega), ob_s, nI_1, hR.2.1 i r (by omega) hr]
    exact ih (i + 1) m (by omega)
theorem sum0_eq {n d q : Nat} {V : FV} {N : Nat → Int32} (hR : Rel n d q V N) (hn : n ≤ 12) {r : Nat} (hr : r < 12) : f_X0_sumOf V (nI r) = some (suN N r n) := by
  obtain ⟨m, hm⟩ := FUEL_ge (k := n + 1) (by omega)
  unfold f_X0_sumOf
  rw [hm]
  exact sum0_loop hR hn hr n 0 m (by omega)
theorem sum4_loop {n : Nat} {V : FV} (h3 : V 1 3 = nI n) (hn : n ≤ 12) {r : Nat} (hr : r < 12) : ∀ (t i m : Nat), i + t = n → f_X4_sum_L4 V (m + t + 1) (nI r) (suN (V 1) r i) (nI i) = some (suN (V 1) r n) := by
  intro t
  induction t with
  | zero =>
    intro i m h
    have hi : i = n := by omega
    subst hi
    show (if (V 1 3) ≤ nI i then _ else _) = _
    rw [h3, if_pos (nI_le (Nat.le_refl i) (by omega))]
  | succ t ih =>
    intro i m h
    show (if (V 1 3) ≤ nI i then _ else ((f_X4_of V (nI i) (nI r)).bind fun x2 => (f_X4_sum_L4 V (m + t + 1) (nI r) (suN (V 1) r i + x2) (nI i + 1)))) = _
    rw [h3, if_neg (nI_ge (by omega) (by omega)), of_eq (by omega) (by omega), ob_s, nI_1]
    exact ih (i + 1) m (by omega)
theorem sum4_eq {n : Nat} {V : FV} (h3 : V 1 3 = nI n) (hn : n ≤ 12) {r : Nat} (hr : r < 12) : f_X4_sum V (nI r) = some (suN (V 1) r n) := by
  obtain ⟨m, hm⟩ := FUEL_ge (k := n + 1) (by omega)
  unfold f_X4_sum
  rw [hm]
  exact sum4_loop h3 hn hr n 0 m (by omega)
theorem ds_su {N : Nat → Int32} : ∀ k, ds N k = suN N 8 k + suN N 9 k := by
  intro k
  induction k with
  | zero => rfl
  | succ k ih =>
    show ds N k + (N (8 + 12 * k + 8) + N (8 + 12 * k + 9)) = suN N 8 k + N (8 + 12 * k + 8) + (suN N 9 k + N (8 + 12 * k + 9))
    rw [ih]
    grind
theorem count_sim {n d q : Nat} {T : Int} {V V2 V3 Vm : FV} {G : Nat → FV} (hO : Ok n d q T V (Vm 1)) (hG : G 0 0 1 = Vm 0 0) (hT : V3 0 0 = Vm 0 2) (p1 : Int32) : ∃ r, f_X3_count V V2 G V3 p1 = some r ∧ f_X4_count Vm p1 = some r := by
  have hb := hO.2.1
  have s0 : ∀ r, r < 12 → f_X0_sumOf V (nI r) = some (suN (Vm 1) r n) := fun r hr => sum0_eq hO.1 hb.1 hr
  have s4 : ∀ r, r < 12 → f_X4_sum Vm (nI r) = some (suN (Vm 1) r n) := fun r hr => sum4_eq hO.1.1.2.1 hb.1 hr
  unfold f_X3_count f_X4_count
  by_cases c0 : p1 = 0
  · rw [if_pos c0, if_pos c0]
    exact ⟨_, rfl, by rw [hO.1.1.1, hO.1.1.2.1]⟩
  rw [if_neg c0, if_neg c0]
  by_cases c1 : p1 = 1
  · rw [if_pos c1, if_pos c1]
    exact ⟨_, rfl, by rw [hO.1.1.2.2.1, hO.1.1.2.2.2.1]⟩
  rw [if_neg c1, if_neg c1]
  by_cases c2 : p1 = 2
  · rw [if_pos c2, if_pos c2]
    exact ⟨_, rfl, by rw [hO.1.1.2.2.2.2.2.2.1]⟩
  rw [if_neg c2, if_neg c2]
  by_cases c3 : p1 = 3
  · rw [if_pos c3, if_pos c3]
    rw [show f_X0_sumOf V 4 = _ from s0 4 (by omega), show f_X4_sum Vm 4 = _ from s4 4 (by omega), ob_s]
    exact ⟨_, rfl, rfl⟩
  rw [if_neg c3, if_neg c3]
  by_cases c4 : p1 = 4
  · rw [if_pos c4, if_pos c4]
    rw [show f_X0_sumOf V 6 = _ from s0 6 (by omega), show f_X4_sum Vm 6 = _ from s4 6 (by omega), ob_s]
    exact ⟨_, rfl, rfl⟩
  rw [if_neg c4, if_neg c4]
  by_cases c5 : p1 = 5
  · rw [if_pos c5, if_pos c5]
    rw [show f_X0_sumOf V 7 = _ from s0 7 (by omega), show f_X4_sum Vm 7 = _ from s4 7 (by omega), ob_s]
    exact ⟨_, rfl, rfl⟩
  rw [if_neg c5, if_neg c5]
  by_cases c6 : p1 = 6
  · rw [if_pos c6, if_pos c6]
    rw [show f_X0_sumOf V 8 = _ from s0 8 (by omega), show f_X0_sumOf V 9 = _ from s0 9 (by omega), ob_s, ob_s]
    exact ⟨_, rfl, by rw [hO.2.2.2.2.2.2.2.2.2, ds_su]⟩
  rw [if_neg c6, if_neg c6]
  by_cases c7 : p1 = 7
  · rw [if_pos c7, if_pos c7]
    rw [show f_X0_sumOf V 10 = _ from s0 10 (by omega), show f_X4_sum Vm 10 = _ from s4 10 (by omega), ob_s]
    exact ⟨_, rfl, rfl⟩
  rw [if_neg c7, if_neg c7]
  by_cases c8 : p1 = 8
  · rw [if_pos c8, if_pos c8]
    rw [show f_X0_sumOf V 11 = _ from s0 11 (by omega), show f_X4_sum Vm 11 = _ from s4 11 (by omega), ob_s]
    exact ⟨_, rfl, rfl⟩
  rw [if_neg c8, if_neg c8]
  by_cases c9 : p1 = 9
  · rw [if_pos c9, if_pos c9]
    rw [show f_X0_sumOf V 5 = _ from s0 5 (by omega), show f_X4_sum Vm 5 = _ from s4 5 (by omega), ob_s]
    exact ⟨_, rfl, rfl⟩
  rw [if_neg c9, if_neg c9]
  by_cases c10 : p1 = 10
  · rw [if_pos c10, if_pos c10]
    exact ⟨_, rfl, by rw [hO.1.1.2.2.2.2.1, hO.1.1.2.2.2.2.2.1]⟩
  rw [if_neg c10, if_neg c10]
  by_cases c11 : p1 = 11
  · rw [if_pos c11, if_pos c11]
    exact ⟨_, rfl, by rw [hO.1.1.2.2.2.2.2.2.2.2.2]⟩
  rw [if_neg c11, if_neg c11]
  by_cases c12 : p1 = 12
  · rw [if_pos c12, if_pos c12]
    rw [tod_eq hO, ob_s, nz_of (day_ne hO.2), ob_s, hO.1.1.2.2.2.2.2.2.2.1]
    exact ⟨_, rfl, rfl⟩
  rw [if_neg c12, if_neg c12]
  by_cases c13 : p1 = 13
  · rw [if_pos c13, if_pos c13]
    exact ⟨_, rfl, by rw [hG]⟩
  rw [if_neg c13, if_neg c13]
  by_cases c14 : p1 = 14
  · rw [if_pos c14, if_pos c14]
    exact ⟨_, rfl, by rw [hT]⟩
  rw [if_neg c14, if_neg c14]
  by_cases c20 : p1 = 20
  · rw [if_pos c20, if_pos c20]
    exact ⟨_, rfl, by rw [hO.1.1.2.2.2.2.2.2.2.1]⟩
  rw [if_neg c20, if_neg c20]
  by_cases c21 : p1 = 21
  · rw [if_pos c21, if_pos c21]
    exact ⟨_, rfl, by rw [hO.1.1.2.2.2.2.2.2.2.2.1]⟩
  rw [if_neg c21, if_neg c21]
  exact ⟨-1, rfl, rfl⟩
