/-! ===== new wells, droughts, requests, settings, ticks: as calls ===== -/
theorem dr_SV {V V' : FV} (h : SV V) (e : ∀ c j, 10 ≤ c → c < 18 → V' c j = V c j) : SV V' := h.congr (fun c j h1 h2 _ => e c j h1 h2)
section CK
variable {V : FV} {N : NN}
theorem wn0 : ¬ ((-1 : Int32) = 0) := by decide
/-- a well whose arguments are in order, below the limit -/
theorem well_K2 (h : K2 V N) (hn : nW N < 12) {p1 p2 p3 p4 : Int32} (k0 : nW N = 0 → p1 = -1) (ka : 0 < nW N → ∃ a, a < nW N ∧ p1 = nI a) (h2 : 1 ≤ p2.toInt ∧ p2.toInt ≤ 1000) (h3 : 0 ≤ p3.toInt ∧ p3.toInt ≤ 100) (h4 : 0 ≤ p4.toInt ∧ p4.toInt ≤ 1000) : ∃ V', f_X0_addWell V p1 p2 p3 p4 = some (nI (nW N), V') ∧ K2 V' (nwN N (nW N) p1 p2 p3 p4) := by
  obtain ⟨n, d, q, en, ed, eq, hR, hW, hC, hS, hQ⟩ := h.get
  rw [en] at hn k0 ka ⊢
  obtain ⟨r, V', N', n', e1, e2, hO, hC', z0', -⟩ := well_sim (Vm := ZV) (T := 50000) ⟨hR, hW⟩ p1 p2 p3 p4
  have i1 : (1 : Int32).toInt = 1 := rfl
  have i2 : (1000 : Int32).toInt = 1000 := rfl
  have i3 : (100 : Int32).toInt = 100 := rfl
  have e3 : N 3 = nI n := hR.1.2.1
  obtain ⟨m, hm⟩ := FUEL_ge (k := 13) (by omega)
  have hz := zero_loop (Vm := ZV) (N := N) hn e3 (p1 := p1) (p2 := p2) (p3 := p3) (p4 := p4) 12 0 m (by omega)
  rw [Zr_0] at hz
  have tail : ((f_X4_in p2 1 1000).bind fun x4 => (if x4 = 0 then some ((-1), sM ZV N) else ((f_X4_in p3 0 100).bind fun x6 => (if x6 = 0 then some ((-1), sM ZV N) else ((f_X4_in p4 0 1000).bind fun x8 => (if x8 = 0 then some ((-1), sM ZV N) else (if (sM ZV N 1 3) = 12 then some ((-3), sM ZV N) else (f_X4_addsWell_L77 FUEL p1 p2 p3 p4 (sM ZV N 1 3) 0 (sM ZV N))))))))) = some (nI n, sM ZV (nwN N n p1 p2 p3 p4)) := by
    rw [in_y (by rw [i_lt, i1]; omega) (by rw [i_lt, i2]; omega), ob_s, if_neg n10, in_y (by rw [i_lt, i_0]; omega) (by rw [i_lt, i3]; omega), ob_s, if_neg n10, in_y (by rw [i_lt, i_0]; omega) (by rw [i_lt, i2]; omega), ob_s, if_neg n10, sM_1, e3, if_neg (fun e => by have := (nI_eq (a := n) (b := 12) (by omega) (by omega)).mp e; omega), hm]
    exact hz
  have e4 : f_X4_addsWell (sM ZV N) p1 p2 p3 p4 = some (nI n, sM ZV (nwN N n p1 p2 p3 p4)) := by
    unfold f_X4_addsWell
    rcases Nat.eq_zero_or_pos n with hz0 | hp
    · rw [if_pos (show sM ZV N 1 3 = 0 by rw [sM_1, e3, hz0]; rfl), if_pos (k0 hz0)]
      exact tail
    · obtain ⟨a, ha, ea⟩ := ka hp
      rw [if_neg (show ¬ sM ZV N 1 3 = 0 by rw [sM_1, e3]; exact nI_ne0 hp (by omega))]
      have hy : f_X4_isWell (sM ZV N) p1 = some 1 := by rw [ea]; exact x4_isWell_y (x4W hR) (by omega) ha
      rw [hy, ob_s, if_neg n10]
      exact tail
  have er : r = nI n := some_fst (e2.symm.trans e4)
  have eN : N' = nwN N n p1 p2 p3 p4 := sM_inj (some_snd (e2.symm.trans e4))
  subst er; subst eN
  have hn' : n' = n + 1 := by
    have h5 : nwN N n p1 p2 p3 p4 3 = nI (n + 1) := upd_eq
    have := (hO.1.1.2.1.symm.trans h5)
    exact (nI_eq (by have := hO.2.1; omega) (by omega)).mp this
  subst hn'
  refine ⟨V', e1, K2.of hO.1 ⟨hO.2, ?_, ?_, ?_⟩⟩
  · rw [z0']; exact hC' _ (by have := hW.2.1; omega) hC
  · have lo : ∀ r k, k ≤ n → r < 12 → suN (nwN N n p1 p2 p3 p4) r k = suN N r k := by
      intro r k
      induction k with
      | zero => intro _ _; rfl
      | succ k ih =>
        intro hk hr
        show suN (nwN N n p1 p2 p3 p4) r k + nwN N n p1 p2 p3 p4 (8 + 12 * k + r) = suN N r k + N (8 + 12 * k + r)
        rw [ih (by omega) hr, nwN_far (by omega) (by omega)]
    have up : ∀ r, 4 ≤ r → r < 12 → suN (nwN N n p1 p2 p3 p4) r (n + 1) = suN N r n := by
      intro r h4 hr
      show suN (nwN N n p1 p2 p3 p4) r n + nwN N n p1 p2 p3 p4 (8 + 12 * n + r) = _
      rw [lo r n (Nat.le_refl _) hr, nwN_r h4 hr, Int32.add_zero]
    unfold SS
    rw [up 6 (by omega) (by omega), up 4 (by omega) (by omega), up 8 (by omega) (by omega), up 9 (by omega) (by omega), up 10 (by omega) (by omega), up 11 (by omega) (by omega), up 5 (by omega) (by omega)]
    exact hS
  · exact hQ.congr (by rw [z0']; exact Int.le_refl _) (fun i hi => nwN_far (by omega) (by omega))
/-- what is asked ahead of the limit -/
theorem well_no (h : K2 V N) {p1 p2 p3 p4 : Int32} (hb : (nW N = 0 ∧ p1 ≠ -1) ∨ (0 < nW N ∧ (p1 < 0 ∨ nI (nW N) ≤ p1)) ∨ ((nW N = 0 → p1 = -1) ∧ (0 < nW N → ∃ a, a < nW N ∧ p1 = nI a) ∧ (p2.toInt < 1 ∨ 1000 < p2.toInt ∨ p3.toInt < 0 ∨ 100 < p3.toInt ∨ p4.toInt < 0 ∨ 1000 < p4.toInt))) : f_X0_addWell V p1 p2 p3 p4 = some (-1, V) := by
  have i1 : (1 : Int32).toInt = 1 := rfl
  have i2 : (1000 : Int32).toInt = 1000 := rfl
  have i3 : (100 : Int32).toInt = 100 := rfl
  have e0 : V 0 0 = nI (nW N) := h.1.1.1
  have hbd := h.b
  have tail : ∀ {X : Option (Int32 × FV)}, (p2.toInt < 1 ∨ 1000 < p2.toInt ∨ p3.toInt < 0 ∨ 100 < p3.toInt ∨ p4.toInt < 0 ∨ 1000 < p4.toInt) → (if p2 < 1 then some ((-1), V) else (if 1000 < p2 then some ((-1), V) else (if p3 < 0 then some ((-1), V) else (if 100 < p3 then some ((-1), V) else (if p4 < 0 then some ((-1), V) else (if p4 ≤ 1000 then X else some ((-1), V))))))) = some (-1, V) := by
    intro X hx
    by_cases c1 : p2 < 1
    · rw [if_pos c1]
    rw [if_neg c1]
    by_cases c2 : 1000 < p2
    · rw [if_pos c2]
    rw [if_neg c2]
    by_cases c3 : p3 < 0
    · rw [if_pos c3]
    rw [if_neg c3]
    by_cases c4 : 100 < p3
    · rw [if_pos c4]
    rw [if_neg c4]
    by_cases c5 : p4 < 0
    · rw [if_pos c5]
    rw [if_neg c5]
    rw [i_lt] at c1 c2 c3 c4 c5
    rw [if_neg (by rw [i_le]; rw [i_0] at c3 c5; omega)]
  unfold f_X0_addWell
  rcases Nat.eq_zero_or_pos (nW N) with hz | hp
  · rw [if_pos (show V 0 0 = 0 by rw [e0, hz]; rfl)]
    rcases hb with ⟨-, h1⟩ | ⟨h1, -⟩ | ⟨h1, -, h2⟩
    · rw [if_neg h1]
    · omega
    · rw [if_pos (h1 hz)]
      exact tail h2
  · rw [if_neg (show ¬ V 0 0 = 0 by rw [e0]; exact nI_ne0 hp (by omega))]
    rcases hb with ⟨h1, -⟩ | ⟨-, h1⟩ | ⟨-, h1, h2⟩
    · omega
    · rw [isW_n h h1, ob_s, if_pos rfl]
    · obtain ⟨a, ha, rfl⟩ := h1 hp
      rw [isW_y h ha, ob_s, if_neg n10]
      exact tail h2
theorem well_full (h : K2 V N) (hn : nW N = 12) {a : Nat} (ha : a < 12) {p2 p3 p4 : Int32} (h2 : 1 ≤ p2.toInt ∧ p2.toInt ≤ 1000) (h3 : 0 ≤ p3.toInt ∧ p3.toInt ≤ 100) (h4 : 0 ≤ p4.toInt ∧ p4.toInt ≤ 1000) : f_X0_addWell V (nI a) p2 p3 p4 = some (-3, V) := by
  have i1 : (1 : Int32).toInt = 1 := rfl
  have i2 : (1000 : Int32).toInt = 1000 := rfl
  have i3 : (100 : Int32).toInt = 100 := rfl
  have e0 : V 0 0 = nI 12 := by rw [← hn]; exact h.1.1.1
  unfold f_X0_addWell
  rw [if_neg (show ¬ V 0 0 = 0 by rw [e0]; exact nI_ne0 (by omega) (by omega)), isW_y h (by omega), ob_s, if_neg n10, if_neg (by rw [i_lt, i1]; omega), if_neg (by rw [i_lt, i2]; omega), if_neg (by rw [i_lt, i_0]; omega), if_neg (by rw [i_lt, i3]; omega), if_neg (by rw [i_lt, i_0]; omega), if_pos (by rw [i_le, i2]; omega), if_neg (by rw [e0]; decide)]
/-! droughts -/
theorem drought_K2 (h : K2 V N) (hd : nD N < 20) {w : Nat} (hw : w < nW N) {p2 p3 : Int32} (h2 : (N 0).toInt < p2.toInt) (h3 : p2.toInt ≤ p3.toInt) (h4 : p3.toInt ≤ 60000) : ∃ V' N', f_X0_addDrought V (nI w) p2 p3 = some (nI (nD N), V') ∧ K2 V' N' ∧ nD N' = nD N + 1 ∧ N' (152 + 3 * nD N) = nI w ∧ N' 0 = N 0 := by
  obtain ⟨n, d, q, en, ed, eq, hR, hW, hC, hS, hQ⟩ := h.get
  rw [ed] at hd ⊢
  rw [en] at hw
  have i6 : (60000 : Int32).toInt = 60000 := rfl
  have e1 : V 0 1 = nI d := hR.1.2.2.1
  have e3 : V 0 3 = N 0 := hR.1.2.2.2.2.2.2.1
  have hb := hW.1
  have hw' : w < nW N := by omega
  have hR' := hR.drt hb.1 hd (nI w) p2 p3
  have hW' := hW.drt hd hw (b := p2) (c := p3)
  have far : ∀ j, j < 4 ∨ (4 < j ∧ j < 152) ∨ 212 ≤ j → upd (upd (upd (upd N (152 + 3 * d) (nI w)) (152 + 3 * d + 1) p2) (152 + 3 * d + 2) p3) 4 (nI (d + 1)) j = N j := fun j hj => by rw [upd_ne (by omega), upd_ne (by omega), upd_ne (by omega), upd_ne (by omega)]
  refine ⟨_, _, ?_, K2.of hR' ⟨hW', ?_, ?_, ?_⟩, nD_of upd_eq (by omega), ?_, far 0 (by omega)⟩
  · unfold f_X0_addDrought
    rw [isW_y h hw', ob_s, if_neg n10, e3, if_neg (by rw [i_le]; omega), if_neg (by rw [i_lt, i6]; omega), if_neg (by rw [i_lt]; omega), if_pos (by rw [i_le, i6]; omega), e1, show (20 : Int32) = nI 20 from rfl, if_pos (nI_lt hd (by omega)), wr_nI (by omega) (by omega), ob_s,
      show st V 19 d (nI w) 0 1 = nI d from e1, wr_nI (by omega) (by omega), ob_s, show st (st V 19 d (nI w)) 20 d p2 0 1 = nI d from e1, wr_nI (by omega) (by omega), ob_s, lt1_mk, show st (st (st V 19 d (nI w)) 20 d p2) 21 d p3 0 1 = nI d from e1, nI_1]
  · rw [far 0 (by omega)]
    exact hC.far (fun w hw => far _ (by omega))
  · have su : ∀ r k, k ≤ n → r < 12 → suN (upd (upd (upd (upd N (152 + 3 * d) (nI w)) (152 + 3 * d + 1) p2) (152 + 3 * d + 2) p3) 4 (nI (d + 1))) r k = suN N r k := by
      intro r k
      induction k with
      | zero => intro _ _; rfl
      | succ k ih =>
        intro hk hr
        show suN _ r k + upd _ 4 (nI (d + 1)) (8 + 12 * k + r) = suN N r k + N (8 + 12 * k + r)
        rw [ih (by omega) hr, far _ (by omega)]
    unfold SS
    rw [su 6 n (by omega) (by omega), su 4 n (by omega) (by omega), su 8 n (by omega) (by omega), su 9 n (by omega) (by omega), su 10 n (by omega) (by omega), su 11 n (by omega) (by omega), su 5 n (by omega) (by omega)]
    exact hS
  · exact hQ.congr (by rw [far 0 (by omega)]; exact Int.le_refl _) (fun i hi => far _ (by omega))
  · rw [upd_ne (by omega), upd_ne (by omega), upd_ne (by omega), upd_eq]
theorem drought_full (h : K2 V N) (hd : nD N = 20) {w : Nat} (hw : w < nW N) {p2 p3 : Int32} (h2 : (N 0).toInt < p2.toInt) (h3 : p2.toInt ≤ p3.toInt) (h4 : p3.toInt ≤ 60000) : f_X0_addDrought V (nI w) p2 p3 = some (-3, V) := by
  have i6 : (60000 : Int32).toInt = 60000 := rfl
  have e1 : V 0 1 = nI 20 := by rw [← hd]; exact h.1.1.2.2.1
  have e3 : V 0 3 = N 0 := h.1.1.2.2.2.2.2.2.1
  unfold f_X0_addDrought
  rw [isW_y h hw, ob_s, if_neg n10, e3, if_neg (by rw [i_le]; omega), if_neg (by rw [i_lt, i6]; omega), if_neg (by rw [i_lt]; omega), if_pos (by rw [i_le, i6]; omega), e1, if_neg (by decide)]
theorem drought_bad (h : K2 V N) {p p2 p3 : Int32} (hp : p < 0 ∨ nI (nW N) ≤ p) : f_X0_addDrought V p p2 p3 = some (-1, V) := by
  unfold f_X0_addDrought
  rw [isW_n h hp, ob_s, if_pos rfl]
theorem drought_bad2 (h : K2 V N) {w : Nat} (hw : w < nW N) {p2 p3 : Int32} (hb : p2.toInt ≤ (N 0).toInt ∨ p3.toInt < p2.toInt ∨ 60000 < p3.toInt) : f_X0_addDrought V (nI w) p2 p3 = some (-1, V) := by
  have i6 : (60000 : Int32).toInt = 60000 := rfl
  have e3 : V 0 3 = N 0 := h.1.1.2.2.2.2.2.2.1
  unfold f_X0_addDrought
  rw [isW_y h hw, ob_s, if_neg n10, e3]
  by_cases c1 : p2 ≤ N 0
  · rw [if_pos c1]
  rw [if_neg c1]
  by_cases c2 : 60000 < p2
  · rw [if_pos c2]
  rw [if_neg c2]
  by_cases c3 : p3 < p2
  · rw [if_pos c3]
  rw [if_neg c3]
  rw [i_le] at c1
  rw [i_lt] at c2 c3
  rw [if_neg (by rw [i_le, i6]; omega)]
end CK
