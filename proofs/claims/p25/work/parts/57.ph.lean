/-! ===== a new well ===== -/
def Zr (N : Nat → Int32) (n k : Nat) : Nat → Int32 := fun j => if 8 + 12 * n ≤ j ∧ j < 8 + 12 * n + k then 0 else N j
theorem Zr_s {N : Nat → Int32} {n k : Nat} : upd (Zr N n k) (8 + 12 * n + k) 0 = Zr N n (k + 1) := by
  funext j
  rw [upd_at]
  unfold Zr
  by_cases c : j = 8 + 12 * n + k
  · rw [if_pos c, if_pos (by omega)]
  · rw [if_neg c]
    by_cases c2 : 8 + 12 * n ≤ j ∧ j < 8 + 12 * n + k
    · rw [if_pos c2, if_pos (by omega)]
    · rw [if_neg c2, if_neg (by omega)]
theorem Zr_0 {N : Nat → Int32} {n : Nat} : Zr N n 0 = N := by
  funext j
  exact if_neg (by omega)
def nwN (N : Nat → Int32) (n : Nat) (p1 p2 p3 p4 : Int32) : Nat → Int32 := upd (ad (ad (ad (ad (Zr N n 12) n 0 p1) n 1 p2) n 2 p3) n 3 p4) 3 (nI (n + 1))
theorem nwN_far {N : Nat → Int32} {n : Nat} {p1 p2 p3 p4 : Int32} {j : Nat} (h3 : j ≠ 3) (h : j < 8 + 12 * n ∨ 20 + 12 * n ≤ j) : nwN N n p1 p2 p3 p4 j = N j := by
  unfold nwN
  rw [upd_ne h3, ad_ne (by omega), ad_ne (by omega), ad_ne (by omega), ad_ne (by omega)]
  exact if_neg (by omega)
theorem Zr_in {N : Nat → Int32} {n r : Nat} (hr : r < 12) : Zr N n 12 (8 + 12 * n + r) = 0 := if_pos (by omega)
theorem nwN_0 {N : Nat → Int32} {n : Nat} {p1 p2 p3 p4 : Int32} : nwN N n p1 p2 p3 p4 (8 + 12 * n + 0) = p1 := by
  unfold nwN
  rw [upd_ne (by omega), ad_ne (by omega), ad_ne (by omega), ad_ne (by omega), ad_eq, Zr_in (by omega), Int32.zero_add]
theorem nwN_1 {N : Nat → Int32} {n : Nat} {p1 p2 p3 p4 : Int32} : nwN N n p1 p2 p3 p4 (8 + 12 * n + 1) = p2 := by
  unfold nwN
  rw [upd_ne (by omega), ad_ne (by omega), ad_ne (by omega), ad_eq, ad_ne (by omega), Zr_in (by omega), Int32.zero_add]
theorem nwN_2 {N : Nat → Int32} {n : Nat} {p1 p2 p3 p4 : Int32} : nwN N n p1 p2 p3 p4 (8 + 12 * n + 2) = p3 := by
  unfold nwN
  rw [upd_ne (by omega), ad_ne (by omega), ad_eq, ad_ne (by omega), ad_ne (by omega), Zr_in (by omega), Int32.zero_add]
theorem nwN_3 {N : Nat → Int32} {n : Nat} {p1 p2 p3 p4 : Int32} : nwN N n p1 p2 p3 p4 (8 + 12 * n + 3) = p4 := by
  unfold nwN
  rw [upd_ne (by omega), ad_eq, ad_ne (by omega), ad_ne (by omega), ad_ne (by omega), Zr_in (by omega), Int32.zero_add]
theorem nwN_r {N : Nat → Int32} {n r : Nat} {p1 p2 p3 p4 : Int32} (hr : 4 ≤ r) (hr2 : r < 12) : nwN N n p1 p2 p3 p4 (8 + 12 * n + r) = 0 := by
  unfold nwN
  rw [upd_ne (by omega), ad_ne (by omega), ad_ne (by omega), ad_ne (by omega), ad_ne (by omega), Zr_in (by omega)]
theorem zero_loop {Vm : FV} {N : Nat → Int32} {n : Nat} (hn : n < 12) (e3 : N 3 = nI n) {p1 p2 p3 p4 : Int32} : ∀ (k i m : Nat), i + k = 12 → f_X4_addsWell_L77 (m + k + 1) p1 p2 p3 p4 (nI n) (nI i) (sM Vm (Zr N n i)) = some (nI n, sM Vm (nwN N n p1 p2 p3 p4)) := by
  intro k
  induction k with
  | zero =>
    intro i m h
    have hi : i = 12 := by omega
    subst hi
    show ((f_X4_adds (sM Vm (Zr N n 12)) (nI n) 0 p1).bind fun V12 => ((f_X4_adds V12 (nI n) 1 p2).bind fun V13 => ((f_X4_adds V13 (nI n) 2 p3).bind fun V14 => ((f_X4_adds V14 (nI n) 3 p4).bind fun V15 => (lt1 (st V15 1 3 ((V15 1 3) + 1)) fun V16 => some (nI n, V16)))))) = _
    rw [show (0 : Int32) = nI 0 from rfl, show f_X4_adds (sM Vm (Zr N n 12)) (nI n) (nI 0) p1 = _ from adds_eqM (by omega) (by omega), ob_s, show (1 : Int32) = nI 1 from rfl, adds_eqM (by omega) (by omega), ob_s, show (2 : Int32) = nI 2 from rfl, adds_eqM (by omega) (by omega), ob_s, show (3 : Int32) = nI 3 from rfl, adds_eqM (by omega) (by omega), ob_s, lt1_mk, sM_1, st_sM2]
    rw [ad_ne (j := 3) (by omega), ad_ne (j := 3) (by omega), ad_ne (j := 3) (by omega), ad_ne (j := 3) (by omega), show Zr N n 12 3 = N 3 from if_neg (by omega), e3, nI_add]
    rfl
  | succ k ih =>
    intro i m h
    show (if 12 ≤ nI i then _ else ((wr 236 (sM Vm (Zr N n i)) 1 ((8 + (12 * nI n)) + nI i) 0).bind fun V17 => (f_X4_addsWell_L77 (m + k + 1) p1 p2 p3 p4 (nI n) (nI i + 1) V17))) = _
    rw [show (12 : Int32) = nI 12 from rfl, if_neg (nI_ge (by omega) (by omega)), show nI 12 = (12 : Int32) from rfl, ix_well, wr_nI (by omega) (by omega), ob_s, st_sM2, Zr_s, nI_1]
    exact ih (i + 1) m (by omega)
theorem bl_0 {N : Nat → Int32} {n : Nat} {p : Int32} (h : ∀ g, g < n → N (8 + 12 * g) ≠ p) : ∀ k, k ≤ n → bl N p k = 0 := by
  intro k
  induction k with
  | zero => intro _; rfl
  | succ k ih =>
    intro hk
    show bl N p k + (if N (8 + 12 * k) = p then 1 else 0) = 0
    rw [ih (by omega), if_neg (h k (by omega))]
    rfl
/-- the class's field with the new well, its number of wells below the other one apart -/
def nwV (V : FV) (n : Nat) (p1 p2 p3 p4 : Int32) : FV := st (st (st (st V 6 n p1) 7 n p2) 8 n p3) 9 n p4
theorem nwV_far {V : FV} {n : Nat} {p1 p2 p3 p4 : Int32} {i j : Nat} (h : j ≠ n ∨ i < 6 ∨ 9 < i) : nwV V n p1 p2 p3 p4 i j = V i j := by
  unfold nwV
  rw [st_ne (by omega), st_ne (by omega), st_ne (by omega), st_ne (by omega)]
theorem WW.ne {N : Nat → Int32} {g n : Nat} (h : WW N g) (hg : g < n) (hn : n ≤ 12) : N (8 + 12 * g) ≠ nI n := by
  intro e
  rcases Nat.eq_zero_or_pos g with hz | hp
  · have := h.1 hz
    rw [e] at this
    have h2 := congrArg Int32.toInt this
    rw [nI_toInt (by omega), show (-1 : Int32).toInt = -1 from rfl] at h2
    omega
  · obtain ⟨a, ha, ea⟩ := h.2.1 hp
    rw [ea] at e
    have := (nI_eq (by omega) (by omega)).mp e
    omega
theorem Rel.well {n d q : Nat} {T : Int} {V : FV} {N : Nat → Int32} (hO : Ok n d q T V N) (hn : n < 12) {p1 p2 p3 p4 : Int32} {X : FV} (hp : ∀ w, n ≤ w → w < 12 → p1 ≠ nI w)
    (hX : ∀ i j, (i ≠ 0 ∨ j ≠ 0) → i ≠ 18 → X i j = nwV V n p1 p2 p3 p4 i j) (hX0 : X 0 0 = nI (n + 1)) (hX18 : ∀ w, w < 12 → X 18 w = V 18 w + (if p1 = nI w then 1 else 0)) : Rel (n + 1) d q X (nwN N n p1 p2 p3 p4) := by
  obtain ⟨⟨⟨a1, a2, a3, a4, a5, a6, a7, a8, a9, a10⟩, hb, hc, he, hf, hg⟩, hW⟩ := hO
  have hb1 := hW.1
  have sc : ∀ i j, (i ≠ 0 ∨ j ≠ 0) → i < 6 → X i j = V i j := fun i j h1 h2 => by rw [hX i j h1 (by omega), nwV_far (by omega)]
  refine ⟨⟨hX0, ?_, ?_, ?_, ?_, ?_, ?_, ?_, ?_, ?_⟩, ?_, ?_, ?_, ?_, ?_⟩
  · unfold nwN; rw [upd_eq]
  · rw [sc _ _ (by omega) (by omega)]; exact a3
  · rw [nwN_far (by omega) (by omega)]; exact a4
  · rw [sc _ _ (by omega) (by omega)]; exact a5
  · rw [nwN_far (by omega) (by omega)]; exact a6
  · rw [sc _ _ (by omega) (by omega), nwN_far (by omega) (by omega)]; exact a7
  · rw [sc _ _ (by omega) (by omega), nwN_far (by omega) (by omega)]; exact a8
  · rw [sc _ _ (by omega) (by omega), nwN_far (by omega) (by omega)]; exact a9
  · rw [sc _ _ (by omega) (by omega), nwN_far (by omega) (by omega)]; exact a10
  · intro w r h1 h2
    rw [hX _ _ (by omega) (by omega)]
    by_cases cw : w = n
    · subst cw
      rcases (show r = 0 ∨ r = 1 ∨ r = 2 ∨ r = 3 ∨ 4 ≤ r by omega) with rfl | rfl | rfl | rfl | h4
      · rw [nwN_0]; unfold nwV; rw [st_ne (by omega), st_ne (by omega), st_ne (by omega)]; exact st_eq
      · rw [nwN_1]; unfold nwV; rw [st_ne (by omega), st_ne (by omega)]; exact st_eq
      · rw [nwN_2]; unfold nwV; rw [st_ne (by omega)]; exact st_eq
      · rw [nwN_3]; unfold nwV; exact st_eq
      · rw [nwN_r h4 h2, nwV_far (by omega)]
        exact he w r (Nat.le_refl w) hn h4 (by omega)
    · rw [nwV_far (by omega), nwN_far (by omega) (by omega)]
      exact hb w r (by omega) h2
  · intro w h1
    rw [hX18 w (by omega)]
    show _ = bl (nwN N n p1 p2 p3 p4) (nI w) n + (if nwN N n p1 p2 p3 p4 (8 + 12 * n + 0) = nI w then 1 else 0)
    rw [nwN_0, bl_congr (M := N) n (fun g hg => nwN_far (by omega) (by omega))]
    by_cases cw : w = n
    · subst cw
      rw [if_neg (hp w (Nat.le_refl w) hn), bl_0 (fun g hg => (hW.2.2.2.2.1 g hg).ne hg (by omega)) w (Nat.le_refl w), show V 18 w = 0 from he w 12 (Nat.le_refl w) hn (by omega) (by omega)]
    · rw [hc w (by omega)]
  · intro w r h1 h2 h3 h4
    by_cases c18 : r = 12
    · subst c18
      rw [hX18 w h2, if_neg, he w 12 (by omega) h2 (by omega) (by omega)]
      · rfl
      · exact hp w (by omega) h2
    · rw [hX _ _ (by omega) (by omega), nwV_far (by omega)]
      exact he w r (by omega) h2 h3 h4
  · intro i k h1 h2; rw [hX _ _ (by omega) (by omega), nwV_far (by omega), nwN_far (by omega) (by omega)]; exact hf i k h1 h2
  · intro i k h1 h2; rw [hX _ _ (by omega) (by omega), nwV_far (by omega), nwN_far (by omega) (by omega)]; exact hg i k h1 h2
theorem Wf.well {n d q : Nat} {T : Int} {N : Nat → Int32} (h : Wf n d q T N) (hn : n < 12) {p1 p2 p3 p4 : Int32} (h0 : n = 0 → p1 = -1) (ha : 0 < n → ∃ a, a < n ∧ p1 = nI a) (h2 : 1 ≤ p2.toInt ∧ p2.toInt ≤ 1000) (h3 : 0 ≤ p3.toInt ∧ p3.toInt ≤ 100) (h4 : 0 ≤ p4.toInt ∧ p4.toInt ≤ 1000) : Wf (n + 1) d q T (nwN N n p1 p2 p3 p4) := by
  obtain ⟨hb, g0, g1, g2, hW, hD, hQ, hQ2, h6⟩ := h
  refine ⟨⟨by omega, hb.2⟩, by rw [nwN_far (by omega) (by omega)]; exact g0, by rw [nwN_far (by omega) (by omega)]; exact g1, by rw [nwN_far (by omega) (by omega)]; exact g2, ?_, ?_, ?_, ?_, ?_⟩
  · intro g hg
    by_cases cg : g = n
    · subst cg
      have e0 : nwN N g p1 p2 p3 p4 (8 + 12 * g) = p1 := nwN_0
      have i0 : (0 : Int32).toInt = 0 := rfl
      refine ⟨fun e => by rw [e0]; exact h0 e, fun e => by rw [e0]; exact ha e, by rw [nwN_1]; exact h2, by rw [nwN_2]; exact h3, by rw [nwN_3]; exact h4, ?_⟩
      rw [nwN_r (by omega) (by omega), nwN_1, i0]
      omega
    · exact (hW g (by omega)).congr (fun r hr => nwN_far (by omega) (by omega))
  · intro i hi
    obtain ⟨a, ha, hb⟩ := hD i hi
    exact ⟨a, by omega, by rw [nwN_far (by omega) (by omega)]; exact hb⟩
  · intro i hi
    obtain ⟨a, ha, hb⟩ := hQ i hi
    exact ⟨a, by omega, by rw [nwN_far (by omega) (by omega)]; exact hb⟩
  · intro i hi
    rw [nwN_far (by omega) (by omega)]
    exact hQ2 i hi
  · show nwN N n p1 p2 p3 p4 6 = ds (nwN N n p1 p2 p3 p4) n + (nwN N n p1 p2 p3 p4 (8 + 12 * n + 8) + nwN N n p1 p2 p3 p4 (8 + 12 * n + 9))
    rw [nwN_far (by omega) (by omega), h6, nwN_r (by omega) (by omega), nwN_r (by omega) (by omega), ds_congr n (fun g r hg hr => nwN_far (by omega) (by omega))]
    show ds N n = ds N n + (0 + 0)
    rw [Int32.zero_add, Int32.add_zero]
theorem Cl.well {n : Nat} {c : Int} (hc : 0 ≤ c) {N : Nat → Int32} (h : Cl n c N) {p1 p2 p3 p4 : Int32} : Cl (n + 1) c (nwN N n p1 p2 p3 p4) := by
  intro w hw
  by_cases cw : w = n
  · subst cw
    rw [nwN_r (by omega) (by omega)]
    exact ⟨Int.le_refl _, hc⟩
  · rw [nwN_far (by omega) (by omega)]
    exact h w (by omega)
theorem well_sim {n d q : Nat} {T : Int} {V Vm : FV} {N : Nat → Int32} (hO : Ok n d q T V N) (p1 p2 p3 p4 : Int32) : ∃ (r : Int32) (V' : FV) (N' : Nat → Int32) (n' : Nat), f_X0_addWell V p1 p2 p3 p4 = some (r, V') ∧ f_X4_addsWell (sM Vm N) p1 p2 p3 p4 = some (r, sM Vm N') ∧ Ok n' d q T V' N' ∧ (∀ c, 0 ≤ c → Cl n c N → Cl n' c N') ∧ N' 0 = N 0 ∧ (r < 0 → N' = N) := by
  have hb := hO.2.1
  have e0 : V 0 0 = nI n := hO.1.1.1
  have e3 : N 3 = nI n := hO.1.1.2.1
  have err : ∃ (r : Int32) (V' : FV) (N' : Nat → Int32) (n' : Nat), (some ((-1 : Int32), V) : Option (Int32 × FV)) = some (r, V') ∧ (some ((-1 : Int32), sM Vm N) : Option (Int32 × FV)) = some (r, sM Vm N') ∧ Ok n' d q T V' N' ∧ (∀ c, 0 ≤ c → Cl n c N → Cl n' c N') ∧ N' 0 = N 0 ∧ (r < 0 → N' = N) := ⟨-1, V, N, n, rfl, rfl, hO, fun _ _ h => h, rfl, fun _ => rfl⟩
  have chk : (n = 0 → p1 = -1) → (0 < n → ∃ a, a < n ∧ p1 = nI a) → ∃ (r : Int32) (V' : FV) (N' : Nat → Int32) (n' : Nat),
      (if p2 < 1 then some ((-1), V) else (if 1000 < p2 then some ((-1), V) else (if p3 < 0 then some ((-1), V) else (if 100 < p3 then some ((-1), V) else (if p4 < 0 then some ((-1), V) else (if p4 ≤ 1000 then (if (V 0 0) < 12 then ((wr 12 V 6 (V 0 0) p1).bind fun V11 => ((wr 12 V11 7 (V11 0 0) p2).bind fun V12 => ((wr 12 V12 8 (V12 0 0) p3).bind fun V13 => ((wr 12 V13 9 (V13 0 0) p4).bind fun V14 => ((f_X0_isWell V14 p1).bind fun x15 => (if x15 = 0 then (lt1 (st V14 0 0 ((V14 0 0) + 1)) fun V17 => some (V14 0 0, V17)) else ((rd 12 (V14 18) p1).bind fun x18 => ((wr 12 V14 18 p1 (x18 + 1)).bind fun V19 => (lt1 (st V19 0 0 ((V19 0 0) + 1)) fun V20 => some (V19 0 0, V20)))))))))) else some ((-3), V)) else some ((-1), V))))))) = some (r, V') ∧
      ((f_X4_in p2 1 1000).bind fun x4 => (if x4 = 0 then some ((-1), sM Vm N) else ((f_X4_in p3 0 100).bind fun x6 => (if x6 = 0 then some ((-1), sM Vm N) else ((f_X4_in p4 0 1000).bind fun x8 => (if x8 = 0 then some ((-1), sM Vm N) else (if (sM Vm N 1 3) = 12 then some ((-3), sM Vm N) else (f_X4_addsWell_L77 FUEL p1 p2 p3 p4 (sM Vm N 1 3) 0 (sM Vm N))))))))) = some (r, sM Vm N') ∧ Ok n' d q T V' N' ∧ (∀ c, 0 ≤ c → Cl n c N → Cl n' c N') ∧ N' 0 = N 0 ∧ (r < 0 → N' = N) := by
    intro k0 ka
    by_cases c1 : p2 < 1
    · rw [if_pos c1, in_n (Or.inl c1), ob_s, if_pos rfl]; exact err
    rw [if_neg c1]
    by_cases c2 : 1000 < p2
    · rw [if_pos c2, in_n (Or.inr c2), ob_s, if_pos rfl]; exact err
    rw [if_neg c2, in_y c1 c2, ob_s, if_neg n10]
    by_cases c3 : p3 < 0
    · rw [if_pos c3, in_n (Or.inl c3), ob_s, if_pos rfl]; exact err
    rw [if_neg c3]
    by_cases c4 : 100 < p3
    · rw [if_pos c4, in_n (Or.inr c4), ob_s, if_pos rfl]; exact err
    rw [if_neg c4, in_y c3 c4, ob_s, if_neg n10]
    by_cases c5 : p4 < 0
    · rw [if_pos c5, in_n (Or.inl c5), ob_s, if_pos rfl]; exact err
    rw [if_neg c5]
    by_cases c6 : p4 ≤ 1000
    · rw [if_pos c6, in_y c5 (by rw [i_lt]; rw [i_le] at c6; omega), ob_s, if_neg n10, sM_1, e0, e3]
      rcases Nat.lt_or_ge n 12 with hn | hn
      · have i1 : (1 : Int32).toInt = 1 := rfl
        have i2 : (1000 : Int32).toInt = 1000 := rfl
        have i3 : (100 : Int32).toInt = 100 := rfl
        rw [i_lt] at c1 c2 c3 c4 c5
        rw [i_le] at c6
        rw [i_0] at c3 c5
        have hWf := hO.2.well hn (p1 := p1) (p2 := p2) (p3 := p3) (p4 := p4) k0 ka (by omega) (by omega) (by omega)
        have hpw : ∀ w, n ≤ w → w < 12 → p1 ≠ nI w := by
          intro w h1 h2 e
          rcases Nat.eq_zero_or_pos n with hz | hp
          · have := k0 hz
            rw [e] at this
            have h2 := congrArg Int32.toInt this
            rw [nI_toInt (by omega), show (-1 : Int32).toInt = -1 from rfl] at h2
            omega
          · obtain ⟨a, ha, ea⟩ := ka hp
            rw [ea] at e
            have := (nI_eq (by omega) (by omega)).mp e
            omega
        obtain ⟨m, hm⟩ := FUEL_ge (k := 13) (by omega)
        have hz := zero_loop (Vm := Vm) (N := N) hn e3 (p1 := p1) (p2 := p2) (p3 := p3) (p4 := p4) 12 0 m (by omega)
        rw [Zr_0] at hz
        rw [show (12 : Int32) = nI 12 from rfl, if_pos (nI_lt hn (by omega)), if_neg (fun e => by have := (nI_eq (by omega) (by omega)).mp e; omega), show f_X4_addsWell_L77 FUEL p1 p2 p3 p4 (nI n) 0 (sM Vm N) = _ from hm ▸ hz]
        rw [wr_nI (by omega) (by omega), ob_s, show st V 6 n p1 0 0 = nI n from e0, wr_nI (by omega) (by omega), ob_s, show st (st V 6 n p1) 7 n p2 0 0 = nI n from e0, wr_nI (by omega) (by omega), ob_s, show st (st (st V 6 n p1) 7 n p2) 8 n p3 0 0 = nI n from e0, wr_nI (by omega) (by omega), ob_s]
        have eV : st (st (st (st V 6 n p1) 7 n p2) 8 n p3) 9 n p4 = nwV V n p1 p2 p3 p4 := rfl
        rw [eV]
        have eV0 : nwV V n p1 p2 p3 p4 0 0 = nI n := e0
        rcases Nat.eq_zero_or_pos n with hz | hp
        · rw [x0_isWell_n (n := n) eV0 (Or.inl (by rw [k0 hz]; decide)), ob_s, if_pos rfl, lt1_mk, eV0, nI_1]
          refine ⟨nI n, _, nwN N n p1 p2 p3 p4, n + 1, rfl, rfl, ⟨Rel.well hO hn hpw (fun i j h _ => st_ne h) st_eq (fun w hw => ?_), hWf⟩, fun c h0 h => h.well h0, nwN_far (by omega) (by omega), fun h => absurd h (nI_pos (by omega))⟩
          rw [st_ne (by omega), nwV_far (by omega), if_neg (hpw w (by omega) hw), Int32.add_zero]
        · obtain ⟨a, ha, ea⟩ := ka hp
          rw [ea]
          rw [ea] at eV0
          rw [x0_isWell_y (n := n) eV0 hb.1 ha, ob_s, if_neg n10, rd_nI (by omega) (by omega), ob_s, wr_nI (by omega) (by omega), ob_s, lt1_mk, show st (nwV V n (nI a) p2 p3 p4) 18 a (nwV V n (nI a) p2 p3 p4 18 a + 1) 0 0 = nI n from eV0, nI_1]
          rw [ea] at hpw hWf
          refine ⟨nI n, _, nwN N n (nI a) p2 p3 p4, n + 1, rfl, rfl, ⟨Rel.well hO hn hpw (fun i j h h18 => by rw [st_ne h, st_ne (by omega)]) st_eq (fun w hw => ?_), hWf⟩, fun c h0 h => h.well h0, nwN_far (by omega) (by omega), fun h => absurd h (nI_pos (by omega))⟩
          rw [st_ne (by omega), nwV_far (i := 18) (j := a) (by omega)]
          by_cases cw : w = a
          · subst cw
            rw [st_eq, if_pos rfl]
          · rw [st_ne (by omega), nwV_far (by omega), if_neg (fun e => cw ((nI_eq (by omega) (by omega)).mp e).symm), Int32.add_zero]
      · have h12 : n = 12 := by omega
        subst h12
        rw [if_neg (show ¬ nI 12 < (12 : Int32) by decide), if_pos (show nI 12 = (12 : Int32) by decide)]
        exact ⟨-3, V, N, 12, rfl, rfl, hO, fun _ _ h => h, rfl, fun _ => rfl⟩
    · rw [if_neg c6, in_n (Or.inr (by rw [i_lt]; rw [i_le] at c6; omega)), ob_s, if_pos rfl]; exact err
  unfold f_X0_addWell f_X4_addsWell
  rcases Nat.eq_zero_or_pos n with hz | hp
  · rw [if_pos (show V 0 0 = 0 by rw [e0, hz]; rfl), if_pos (show sM Vm N 1 3 = 0 by rw [sM_1, e3, hz]; rfl)]
    by_cases c : p1 = -1
    · rw [if_pos c, if_pos c]
      exact chk (fun _ => c) (fun h => absurd h (by omega))
    · rw [if_neg c, if_neg c]; exact err
  · rw [if_neg (show ¬ V 0 0 = 0 by rw [e0]; exact nI_ne0 hp (by omega)), if_neg (show ¬ sM Vm N 1 3 = 0 by rw [sM_1, e3]; exact nI_ne0 hp (by omega))]
    rcases ix_case n hb.1 p1 with ⟨w0, hw, rfl⟩ | hno
    · rw [x0_isWell_y hO.1.1.1 hb.1 hw, ob_s, if_neg n10, x4_isWell_y (x4W hO.1) hb.1 hw, ob_s, if_neg n10]
      exact chk (fun h => absurd h (by omega)) (fun _ => ⟨w0, hw, rfl⟩)
    · rw [x0_isWell_n hO.1.1.1 hno, ob_s, if_pos rfl, x4_isWell_n (x4W hO.1) hb.1 hno, ob_s, if_pos rfl]
      exact err
