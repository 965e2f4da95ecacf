/-! ===== what only reads ===== -/
theorem ix_caseN (n : Nat) (hn : n ≤ 100) (p : Int32) : (∃ j, j < n ∧ p = nI j) ∨ (p < 0 ∨ nI n ≤ p) := by
  rcases pk_ix p (n := n) (by omega) with h | h | h
  · exact Or.inr (Or.inl h)
  · exact Or.inr (Or.inr h)
  · exact Or.inl h
theorem inN_y {n j : Nat} (hn : n ≤ 100) (hj : j < n) : f_X4_in (nI j) 0 (nI n - 1) = some 1 := in_y (nI_pos (by omega)) (by rw [i_lt, nI_m1 (by omega), nI_toInt (by omega)]; omega)
theorem inN_n {n : Nat} {p : Int32} (hn : n ≤ 100) (hp : p < 0 ∨ nI n ≤ p) : f_X4_in p 0 (nI n - 1) = some 0 := by
  rw [in_n]
  rcases hp with hp | hp
  · exact Or.inl hp
  · right
    rw [i_le, nI_toInt (by omega)] at hp
    rw [i_lt, nI_m1 (by omega)]
    omega
theorem set_case {n d q : Nat} {T : Int} {V : FV} {N : Nat → Int32} (hO : Ok n d q T V N) (p1 p2 : Int32) : (f_X0_changeSetting V p1 p2 = some (-1, V) ∧ ∀ Vm : FV, f_X4_set Vm p1 p2 = some (-1, Vm)) ∨
    ∃ (r : Int32) (V' : FV) (N' : Nat → Int32), f_X0_changeSetting V p1 p2 = some (r, V') ∧ Ok n d q T V' N' ∧ (∀ c, Cl n c N → Cl n c N') ∧ N' 0 = N 0 ∧ ∀ Vm Vc : FV, f_X4_copy Vm = some Vc → Vc 1 = N → f_X4_set Vm p1 p2 = b2 (f_X4_recorded (sM Vc N') r) fun x V3 => some (x, V3) := by
  by_cases c0 : p1 = 0
  · subst c0
    by_cases c1 : p2 < 4
    · left
      refine ⟨if_pos c1, fun Vm => ?_⟩
      unfold f_X4_set
      rw [in_y (by decide) (by decide), ob_s, if_neg (by decide), if_pos rfl, if_pos rfl, in_n (Or.inl c1)]
      rfl
    · by_cases c2 : 100 < p2
      · left
        refine ⟨?_, fun Vm => ?_⟩
        · unfold f_X0_changeSetting
          rw [if_pos rfl, if_neg c1, if_pos c2]
        · unfold f_X4_set
          rw [in_y (by decide) (by decide), ob_s, if_neg (by decide), if_pos rfl, if_pos rfl, in_n (Or.inr c2)]
          rfl
      · right
        have i4 : (4 : Int32).toInt = 4 := rfl
        have i100 : (100 : Int32).toInt = 100 := rfl
        have hx : 4 ≤ p2.toInt ∧ p2.toInt ≤ 100 := by rw [i_lt, i4] at c1; rw [i_lt, i100] at c2; omega
        refine ⟨N 1, _, _, ?_, hO.set0 hx, fun c hc => hc.far (fun w hw => upd_ne (by omega)), upd_ne (by omega), fun Vm Vc h1 h2 => ?_⟩
        · unfold f_X0_changeSetting
          rw [if_pos rfl, if_neg c1, if_neg c2, show (0 : Int32) = nI 0 from rfl, rd_nI (by omega) (by omega), ob_s, wr_nI (by omega) (by omega), ob_s]
          rw [hO.1.1.2.2.2.2.2.2.2.1]
        · unfold f_X4_set
          rw [in_y (by decide) (by decide), ob_s, if_neg (by decide), if_pos rfl, if_pos rfl, in_y c1 c2, ob_s, if_neg (by decide), h1, ob_s, show (1 : Int32) + 0 = nI 1 from rfl, rd_nI (by omega) (by omega), ob_s, wr_nI (by omega) (by omega), ob_s, st_sM, h2]
  · by_cases c9 : p1 = 1
    · subst c9
      by_cases c1 : p2 = 0 ∨ p2 = 1
      · right
        have hin : f_X4_in p2 0 1 = some 1 := by rcases c1 with rfl | rfl <;> rfl
        refine ⟨N 2, _, _, ?_, hO.set1 c1, fun c hc => hc.far (fun w hw => upd_ne (by omega)), upd_ne (by omega), fun Vm Vc h1 h2 => ?_⟩
        · unfold f_X0_changeSetting
          have e : ((rd 2 (V 4) 1).bind fun x4 => ((wr 2 V 4 1 p2).bind fun V5 => some (x4, V5))) = some (N 2, st V 4 1 p2) := by
            rw [show (1 : Int32) = nI 1 from rfl, rd_nI (by omega) (by omega), ob_s, wr_nI (by omega) (by omega), ob_s, hO.1.1.2.2.2.2.2.2.2.2.1]
          rw [if_neg (by decide), if_pos rfl, e]
          rcases c1 with rfl | rfl
          · rw [if_pos rfl]
          · rw [if_neg (by decide), if_pos rfl]
        · unfold f_X4_set
          rw [in_y (by decide) (by decide), ob_s, if_neg (by decide), if_neg (by decide), if_neg (by decide), hin, ob_s, if_neg (by decide), h1, ob_s, show (1 : Int32) + 1 = nI 2 from rfl, rd_nI (by omega) (by omega), ob_s, wr_nI (by omega) (by omega), ob_s, st_sM, h2]
      · left
        have n0 : ¬ p2 = 0 := fun e => c1 (Or.inl e)
        have n1 : ¬ p2 = 1 := fun e => c1 (Or.inr e)
        have hin : f_X4_in p2 0 1 = some 0 := by
          rcases ix_caseN 2 (by omega) p2 with ⟨j, hj, rfl⟩ | h
          · rcases (show j = 0 ∨ j = 1 by omega) with rfl | rfl
            · exact absurd rfl n0
            · exact absurd rfl n1
          · exact inN_n (n := 2) (by omega) h
        refine ⟨?_, fun Vm => ?_⟩
        · unfold f_X0_changeSetting
          rw [if_neg (by decide), if_pos rfl, if_neg n0, if_neg n1]
        · unfold f_X4_set
          rw [in_y (by decide) (by decide), ob_s, if_neg (by decide), if_neg (by decide), if_neg (by decide), hin]
          rfl
    · left
      have hin : f_X4_in p1 0 1 = some 0 := by
        rcases ix_caseN 2 (by omega) p1 with ⟨j, hj, rfl⟩ | h
        · rcases (show j = 0 ∨ j = 1 by omega) with rfl | rfl
          · exact absurd rfl c0
          · exact absurd rfl c9
        · exact inN_n (n := 2) (by omega) h
      refine ⟨?_, fun Vm => ?_⟩
      · unfold f_X0_changeSetting
        rw [if_neg c0, if_neg c9]
      · unfold f_X4_set
        rw [hin]
        rfl
/-! able, gives -/
theorem able_sim {n d q : Nat} {T : Int} {V Vm : FV} (hO : Ok n d q T V (Vm 1)) {w0 : Nat} (hw : w0 < n) : ∃ (r : Int32) (V' : FV), f_X0_shareOut V (nI w0) 12000 = some (r, V') ∧ f_X4_ableOf Vm (nI w0) = some r ∧ Ok n d q T V' (Vm 1) := by
  obtain ⟨a, ha, hai⟩ := ableOf_eq (V := Vm) rfl hO.2 hw
  have hs := share_toInt hO hw (b := 12000) (by decide)
  have hr := abl_rng (w0 := w0) hO.2.1.1 hO.2.2.2.2.2.1 12 w0 hw
  have i12 : (12000 : Int32).toInt = 12000 := rfl
  refine ⟨a, sS V (shr (Vm 1) w0 12 w0 12000 (S0 V)), ?_, ha, ⟨hO.1.sS, hO.2⟩⟩
  have e : 12000 - shl (Vm 1) w0 12 w0 12000 = a := by
    rw [i_eq, hs, hai, i12]
    omega
  rw [share_eq hO hw, e]
theorem gives_loop {n : Nat} {V : FV} (hn : n ≤ 12) (hW : ∀ w, w < n → WW (V 1) w) {w0 w3 : Nat} {y2 : Int32} (hw0 : w0 < 12) (hw3 : w3 < 12) : ∀ (f g m : Nat) (y : Int32) (S : Nat → Int32), g < f → g < n → S w3 = 0 → f_X4_gives_L43 V (m + f + 1) (nI w0) y2 (nI w3) y (nI g) = some (shr (V 1) w0 f g y S w3) := by
  intro f
  induction f with
  | zero => intro g m y S h; exact absurd h (by omega)
  | succ f ih =>
    intro g m y S hgf hg hS
    show (if nI g < 0 then _ else ((f_X4_part V (nI w0) (nI g) y).bind fun x10 => (if nI g = nI w3 then some x10 else ((f_X4_of V (nI g) 0).bind fun x12 => (f_X4_gives_L43 V (m + f + 1) (nI w0) y2 (nI w3) (y - x10) x12))))) = some ((if g = 0 then upd S g (jmin y (mo (V 1) w0 g)) else shr (V 1) w0 f (abv (V 1) g) (y - jmin y (mo (V 1) w0 g)) (upd S g (jmin y (mo (V 1) w0 g)))) w3)
    rw [if_neg (nI_pos (by omega)), part_eq hw0 (by omega), ob_s]
    by_cases c : g = w3
    · subst c
      rw [if_pos rfl]
      by_cases cz : g = 0
      · rw [if_pos cz, upd_eq]
      · have e2 := (abv_eq (hW g hg) (by omega) (by omega)).2
        rw [if_neg cz, shr_hi hn hW f _ _ _ g (by omega) e2, upd_eq]
    · rw [if_neg (fun e => c ((nI_eq (by omega) (by omega)).mp e)), show (0 : Int32) = nI 0 from rfl, of_eq (by omega) (by omega), ob_s, Nat.add_zero]
      by_cases cz : g = 0
      · subst cz
        rw [if_pos rfl, (hW 0 hg).1 rfl, upd_ne (fun e => c e.symm), hS]
        rfl
      · have e2 := abv_eq (hW g hg) (by omega) (by omega)
        rw [if_neg cz, show V 1 (8 + 12 * g + 0) = nI (abv (V 1) g) from e2.1]
        exact ih (abv (V 1) g) m _ _ (by omega) (by omega) (by rw [upd_ne (fun e => c e.symm)]; exact hS)
/-! below, above -/
theorem below_loop {V : FV} {n : Nat} {p : Int32} (h3 : V 1 3 = nI n) (hn : n ≤ 12) : ∀ (t i m : Nat), i + t = n → f_X4_belowMany_L4 V (m + t + 1) p (bl (V 1) p i) (nI i) = some (bl (V 1) p n) := by
  intro t
  induction t with
  | zero =>
    intro i m h
    have hi : i = n := by omega
    subst hi
    show (if (V 1 3) ≤ nI i then _ else _) = _
    rw [h3, if_pos (nI_le (Nat.le_refl i) (by omega))]
  | succ t ih =>
    intro i m h
    have e := ih (i + 1) m (by omega)
    show (if (V 1 3) ≤ nI i then _ else ((f_X4_of V (nI i) 0).bind fun x2 => (if x2 = p then (f_X4_belowMany_L4 V (m + t + 1) p (bl (V 1) p i + 1) (nI i + 1)) else (f_X4_belowMany_L4 V (m + t + 1) p (bl (V 1) p i + 0) (nI i + 1))))) = _
    rw [h3, if_neg (nI_ge (by omega) (by omega)), show (0 : Int32) = nI 0 from rfl, of_eq (by omega) (by omega), ob_s, Nat.add_zero, nI_1, show nI 0 = (0 : Int32) from rfl]
    rw [show bl (V 1) p (i + 1) = bl (V 1) p i + (if V 1 (8 + 12 * i) = p then 1 else 0) from rfl] at e
    by_cases c : V 1 (8 + 12 * i) = p
    · rw [if_pos c] at e ⊢; exact e
    · rw [if_neg c] at e ⊢; exact e
theorem below_eq {V : FV} {n : Nat} {p : Int32} (h3 : V 1 3 = nI n) (hn : n ≤ 12) : f_X4_belowMany V p = some (bl (V 1) p n) := by
  obtain ⟨m, hm⟩ := FUEL_ge (k := n + 1) (by omega)
  unfold f_X4_belowMany
  rw [hm]
  exact below_loop h3 hn n 0 m (by omega)
theorem wellOf_sim {n d q : Nat} {T : Int} {V V2 V3 Vm : FV} {G : Nat → FV} (hO : Ok n d q T V (Vm 1)) (p1 p2 : Int32) : ∃ r, f_X3_wellOf V V2 G V3 p1 p2 = some r ∧ f_X4_wellOf Vm p1 p2 = some r := by
  have hb := hO.2.1
  unfold f_X3_wellOf f_X4_wellOf
  rcases ix_case n hb.1 p1 with ⟨w0, hw, rfl⟩ | hno
  · rw [x0_isWell_y hO.1.1.1 hb.1 hw, ob_s, if_neg (show ¬ (1 : Int32) = 0 by decide), x4_isWell_y hO.1.1.2.1 hb.1 hw, ob_s, if_neg (show ¬ (1 : Int32) = 0 by decide)]
    rcases ix_caseN 14 (by omega) p2 with ⟨j, hj, rfl⟩ | h
    · rw [if_neg (nI_pos (by omega)), if_pos (show nI j ≤ 13 from nI_le (b := 13) (by omega) (by omega)), show (13 : Int32) = nI 14 - 1 from rfl, inN_y (by omega) hj, ob_s, if_neg (show ¬ (1 : Int32) = 0 by decide), show nI 14 - 1 = (13 : Int32) from rfl]
      rcases (show j = 13 ∨ j = 12 ∨ j = 0 ∨ (0 < j ∧ j < 12) by omega) with rfl | rfl | rfl | hjj
      · obtain ⟨e1, e2⟩ := isDry_sim (t := V 0 3 + 1) (w := w0) hO.1 hb.1 hb.2.1 hO.2.2.2.2.2.2.1 (by omega)
        rw [if_pos (show nI 13 = 13 from rfl), if_neg (show ¬ nI 13 = 12 by decide), if_pos (show nI 13 = 13 from rfl), e1, ← hO.1.1.2.2.2.2.2.2.1, e2, ob_s]
        by_cases cb : b2i (dry (Vm 1) w0 (V 0 3 + 1) d) = 0
        · rw [if_pos cb]; exact ⟨_, rfl, rfl⟩
        · rw [if_neg cb]; exact ⟨_, rfl, rfl⟩
      · rw [if_neg (show ¬ nI 12 = 13 by decide), if_pos (show nI 12 = 12 from rfl), if_neg (show ¬ nI 12 = 0 by decide), below_eq hO.1.1.2.1 hb.1, ob_s, ix_nI (by omega) (by omega), ob_s, rd_nI (by omega) (by omega), ob_s]
        exact ⟨_, rfl, congrArg some (hO.1.2.2.1 w0 hw).symm⟩
      · rw [if_neg (show ¬ nI 0 = 13 by decide), if_neg (show ¬ nI 0 = 12 by decide), if_neg (show ¬ nI 0 = 13 by decide), if_pos (show nI 0 = 0 from rfl), if_pos (show nI 0 = 0 from rfl)]
        by_cases cw : w0 = 0
        · subst cw
          rw [if_pos (show nI 0 = 0 from rfl), if_pos (show nI 0 = 0 from rfl)]
          exact ⟨-4, rfl, rfl⟩
        · have hne : ¬ nI w0 = 0 := fun e => cw ((nI_eq (b := 0) (by omega) (by omega)).mp e)
          rw [if_neg hne, if_neg hne, of_eq (by omega) (by omega), ob_s, ix_nI (by omega) (by omega), ob_s, rd_nI (by omega) (by omega), ob_s]
          exact ⟨_, rfl, congrArg some (hO.1.2.1 w0 0 hw (by omega)).symm⟩
      · have h13 : ¬ nI j = 13 := fun e => by have := (nI_eq (a := j) (b := 13) (by omega) (by omega)).mp e; omega
        have h12 : ¬ nI j = 12 := fun e => by have := (nI_eq (a := j) (b := 12) (by omega) (by omega)).mp e; omega
        have h0 : ¬ nI j = 0 := fun e => by have := (nI_eq (a := j) (b := 0) (by omega) (by omega)).mp e; omega
        rw [if_neg h13, if_neg h12, if_neg h13, if_neg h0, if_neg h0, of_eq (by omega) (by omega), ob_s, ix_nI (by omega) (by omega), ob_s, rd_nI (by omega) (by omega), ob_s]
        exact ⟨_, rfl, congrArg some (hO.1.2.1 w0 j hw (by omega)).symm⟩
    · rw [show (13 : Int32) = nI 14 - 1 from rfl, inN_n (by omega) h, ob_s, if_pos (show (0 : Int32) = 0 from rfl)]
      refine ⟨-1, ?_, rfl⟩
      by_cases c : p2 < 0
      · rw [if_pos c]
      · rw [if_neg c, if_neg]
        have := h.resolve_left c
        rw [i_le, nI_toInt (by omega)] at this
        have i13 : (nI 14 - 1).toInt = 13 := rfl
        rw [i_le, i13]
        omega
  · rw [x0_isWell_n hO.1.1.1 hno, ob_s, x4_isWell_n hO.1.1.2.1 hb.1 hno, ob_s, if_pos rfl, if_pos rfl]
    exact ⟨-1, rfl, rfl⟩
theorem above_loop {n d q : Nat} {T : Int} {V Vm : FV} (hO : Ok n d q T V (Vm 1)) {p1 p2 : Int32} : ∀ (f i m m' : Nat) (z : Int32), i + f ≤ 12 → (z = -1 ∨ ∃ a, a < f ∧ a < n ∧ z = nI a) → ∃ z', (z' = -1 ∨ ∃ a, a < n ∧ z' = nI a) ∧ f_X0_wellAbove_L20 V (m + f + 1) p1 p2 (jmin p2 12) z (nI i) = some z' ∧ f_X4_aboveAt_L24 Vm (m' + f + 1) p1 p2 z (nI i) = some (if 0 ≤ z' then z' else -4) := by
  have hb := hO.2.1
  have neg : ∀ (f i m m' : Nat), i + f ≤ 12 → ∃ z', (z' = -1 ∨ ∃ a, a < n ∧ z' = nI a) ∧ f_X0_wellAbove_L20 V (m + f + 1) p1 p2 (jmin p2 12) (-1) (nI i) = some z' ∧ f_X4_aboveAt_L24 Vm (m' + f + 1) p1 p2 (-1) (nI i) = some (if 0 ≤ z' then z' else -4) := by
    intro f i m m' hi
    refine ⟨-1, Or.inl rfl, ?_, ?_⟩
    · show (if jmin p2 12 ≤ nI i then some (-1) else ((f_X0_isWell V (-1)).bind fun x4 => (if x4 = 0 then some (-1) else _))) = _
      by_cases c : jmin p2 12 ≤ nI i
      · rw [if_pos c]
      · rw [if_neg c, x0_isWell_n hO.1.1.1 (Or.inl (by decide)), ob_s, if_pos rfl]
    · show (if p2 ≤ nI i then some (-4) else some (-4)) = _
      by_cases c : p2 ≤ nI i
      · rw [if_pos c]; rfl
      · rw [if_neg c]; rfl
  intro f
  induction f with
  | zero =>
    intro i m m' z hi hz
    rcases hz with rfl | ⟨a, ha, -⟩
    · exact neg 0 i m m' hi
    · exact absurd ha (by omega)
  | succ f ih =>
    intro i m m' z hi hz
    rcases hz with rfl | ⟨a, ha, han, rfl⟩
    · exact neg (f + 1) i m m' hi
    · have hle : jmin p2 12 ≤ nI i ↔ p2 ≤ nI i := by
        have i12 : (12 : Int32).toInt = 12 := rfl
        rw [i_le, i_le, jmin_toInt, nI_toInt (by omega), i12]
        omega
      have h0a : (0 : Int32) ≤ nI a := by rw [i_le, i_0, nI_toInt (by omega)]; omega
      show ∃ z', (z' = -1 ∨ ∃ a, a < n ∧ z' = nI a) ∧ (if jmin p2 12 ≤ nI i then some (nI a) else ((f_X0_isWell V (nI a)).bind fun x4 => (if x4 = 0 then some (nI a) else ((rd 12 (V 6) (nI a)).bind fun x6 => (f_X0_wellAbove_L20 V (m + f + 1) p1 p2 (jmin p2 12) x6 (nI i + 1)))))) = some z' ∧
        (if p2 ≤ nI i then (if 0 ≤ nI a then some (nI a) else some ((-4))) else (if nI a < 0 then (if 0 ≤ nI a then some (nI a) else some ((-4))) else ((f_X4_of Vm (nI a) 0).bind fun x9 => (f_X4_aboveAt_L24 Vm (m' + f + 1) p1 p2 x9 (nI i + 1))))) = some (if 0 ≤ z' then z' else -4)
      by_cases c : p2 ≤ nI i
      · rw [if_pos (hle.mpr c), if_pos c, if_pos h0a]
        exact ⟨nI a, Or.inr ⟨a, han, rfl⟩, rfl, by rw [if_pos h0a]⟩
      · rw [if_neg (fun h => c (hle.mp h)), if_neg c, if_neg (nI_pos (by omega)), x0_isWell_y hO.1.1.1 hb.1 han, ob_s, if_neg (show ¬ (1 : Int32) = 0 by decide), rd_nI (by omega) (by omega), ob_s, show (0 : Int32) = nI 0 from rfl, of_eq (by omega) (by omega), ob_s, nI_1, show V 6 a = Vm 1 (8 + 12 * a + 0) from hO.1.2.1 a 0 han (by omega)]
        refine ih (i + 1) m m' _ (by omega) ?_
        have hW := hO.2.2.2.2.2.1 a han
        rcases Nat.eq_zero_or_pos a with hz | hp
        · exact Or.inl (hW.1 hz)
        · obtain ⟨b, hb1, hb2⟩ := hW.2.1 hp
          exact Or.inr ⟨b, by omega, by omega, hb2⟩
theorem aboveAt_sim {n d q : Nat} {T : Int} {V V2 V3 Vm : FV} {G : Nat → FV} (hO : Ok n d q T V (Vm 1)) (p1 p2 : Int32) : ∃ r, f_X3_aboveAt V V2 G V3 p1 p2 = some r ∧ f_X4_aboveAt Vm p1 p2 = some r := by
  have hb := hO.2.1
  unfold f_X3_aboveAt f_X4_aboveAt
  rcases ix_case n hb.1 p1 with ⟨w0, hw, rfl⟩ | hno
  · rw [x0_isWell_y hO.1.1.1 hb.1 hw, ob_s, if_neg (show ¬ (1 : Int32) = 0 by decide), x4_isWell_y hO.1.1.2.1 hb.1 hw, ob_s, if_neg (show ¬ (1 : Int32) = 0 by decide)]
    by_cases c : 0 ≤ p2
    · rw [if_pos c, if_pos c]
      obtain ⟨m, hm⟩ := FUEL_ge (k := 13) (by omega)
      have hW := hO.2.2.2.2.2.1 w0 hw
      obtain ⟨z', h1, h2, h3⟩ := above_loop hO (p1 := nI w0) (p2 := p2) 12 0 m m (Vm 1 (8 + 12 * w0 + 0)) (by omega) (by
        rcases Nat.eq_zero_or_pos w0 with hz | hp
        · exact Or.inl (hW.1 hz)
        · obtain ⟨b, hb1, hb2⟩ := hW.2.1 hp
          exact Or.inr ⟨b, by omega, by omega, hb2⟩)
      unfold f_X0_wellAbove
      rw [lt1_mk, rd_nI (by omega) (by omega), ob_s, hm, show V 6 w0 = Vm 1 (8 + 12 * w0 + 0) from hO.1.2.1 w0 0 hw (by omega)]
      rw [show f_X4_of Vm (nI w0) 0 = some (Vm 1 (8 + 12 * w0 + 0)) from of_eq (k := 0) (by omega) (by omega), ob_s]
      rw [show f_X0_wellAbove_L20 V (m + 13) (nI w0) p2 (jmin p2 12) (Vm 1 (8 + 12 * w0 + 0)) 0 = some z' from h2, ob_s]
      refine ⟨_, ?_, h3⟩
      rcases h1 with rfl | ⟨a, ha, rfl⟩
      · rfl
      · have h0a : (0 : Int32) ≤ nI a := by rw [i_le, i_0, nI_toInt (by omega)]; omega
        rw [if_pos h0a, if_neg]
        intro e
        rw [e] at h0a
        exact absurd h0a (by decide)
    · rw [if_neg c, if_neg c]
      exact ⟨-1, rfl, rfl⟩
  · rw [x0_isWell_n hO.1.1.1 hno, ob_s, x4_isWell_n hO.1.1.2.1 hb.1 hno, ob_s, if_pos rfl, if_pos rfl]
    exact ⟨-1, rfl, rfl⟩
