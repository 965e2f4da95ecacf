/-! ===== forecasts ===== -/
theorem Inv.back {v1 v2 w2 v3 V X : FV} {G : Nat → FV} (h : Inv v1 v2 G v3 V) (x2 : X 2 = cpF 236 (V 1) (V 2)) (x3 : X 3 = V 3) (x4 : X 4 = V 4) (x00 : X 0 0 = V 0 0) (x01 : X 0 1 = V 0 1) (x02 : X 0 2 = V 0 2) : Inv v1 w2 G v3 (sM X (cpF 236 (X 2) (X 1))) := by
  obtain ⟨hK, hT, o, s, a, hH⟩ := h
  refine ⟨hK.congr (fun _ _ _ => rfl) (fun j hj => ?_), hT.congr rfl rfl x4 x02, o, s, a, hH.congr x00 x01 x3⟩
  rw [sM_1, cpF_lt hj, x2, cpF_lt hj]
theorem copyFrom_ok {n d q : Nat} {T : Int} {v : FV} {N : Nat → Int32} (hO : Ok n d q T v N) (X : FV) : ∃ X', f_X0_copyFrom X v = some X' ∧ Ok n d q T X' N := by
  obtain ⟨X', e1, e2⟩ := copyFrom_eq X v
  have hb := hO.2.1
  exact ⟨X', e1, hO.1.congrV hb.1 hb.2.1 hb.2.2 e2, hO.2⟩
theorem sim_lenders : Sim_lenders Inv := by
  intro v1 v2 G v3 V h
  have h' := h
  obtain ⟨⟨n, d, q, hO, hC⟩, -⟩ := h'
  obtain ⟨X, hXe⟩ : ∃ X, X = sB V (cpF 236 (V 1) (V 2)) := ⟨_, rfl⟩
  have eX : sM X (V 1) = X := by rw [hXe]; exact sM_self
  obtain ⟨X', e1, hO1⟩ := copyFrom_ok hO v2
  obtain ⟨s', V', N', e3, e4, hO2, -, -⟩ := lend_sim (Vm := X) hO1
  rw [eX] at e4
  unfold f_X3_lenders f_X4_lenders
  rw [e1, ob_s, e3, b2_mk, copy_eq, ob_s, ← hXe, e4, b2_mk, back_eq, ob_s]
  exact ⟨s', v1, V', G, v3, _, rfl, rfl, h.back (by rw [hXe]; rfl) (by rw [hXe]; rfl) (by rw [hXe]; rfl) (by rw [hXe]; rfl) (by rw [hXe]; rfl) (by rw [hXe]; rfl)⟩
theorem possible_loop {n d : Nat} {X v1 v3 : FV} {G : Nat → FV} {w0 : Nat} (hw : w0 < n) {b : Int32} (hb0 : 1 ≤ b.toInt) {c0 : Int} (h0 : 0 ≤ c0) (h1 : c0 ≤ 90000000) : ∀ (t i m m' q : Nat) (T : Int) (v2 : FV) (N : Nat → Int32), i + t = 301 → Ok n d q T v2 N → T ≤ 50000 + i → Cl n (c0 + 1000 * i) N → ∃ (r : Int32) (w2 : FV) (N' : Nat → Int32), f_X3_possibleIn_L33 (m + t + 1) (nI w0) b (nI i) v1 v2 G v3 = some (r, (v1, w2, G, v3)) ∧ f_X4_possibleIn_L23 (m' + t + 1) (nI w0) b (nI i) (sM X N) = some (r, sM (sM X N') (cpF 236 ((sM X N') 2) ((sM X N') 1))) := by
  intro t
  induction t with
  | zero =>
    intro i m m' q T v2 N h hO hT hC
    have hlt : (300 : Int32) < nI i := by rw [i_lt, nI_toInt (by omega), show (300 : Int32).toInt = 300 from rfl]; omega
    have hnle : ¬ nI i ≤ (300 : Int32) := by rw [i_le, nI_toInt (by omega), show (300 : Int32).toInt = 300 from rfl]; omega
    refine ⟨-4, v2, N, ?_, ?_⟩
    · show (if 300 < nI i then some ((-4), (v1, v2, G, v3)) else _) = _
      rw [if_pos hlt]
    · show (if 300 < nI i then ((f_X4_back (sM X N)).bind fun V7 => (if nI i ≤ 300 then some (nI i, V7) else some ((-4), V7))) else _) = _
      rw [if_pos hlt, back_eq, ob_s, if_neg hnle]
  | succ t ih =>
    intro i m m' q T v2 N h hO hT hC
    have hlo := hO.2.2.1
    have hn300 : ¬ (300 : Int32) < nI i := by rw [i_lt, nI_toInt (by omega), show (300 : Int32).toInt = 300 from rfl]; omega
    have hle300 : nI i ≤ (300 : Int32) := by rw [i_le, nI_toInt (by omega), show (300 : Int32).toInt = 300 from rfl]; omega
    obtain ⟨a, ha, hai⟩ := ableOf_eq (V := sM X N) (N := N) rfl hO.2 hw
    have hs := share_toInt hO hw (b := b) (by omega)
    show ∃ (r : Int32) (w2 : FV) (N' : Nat → Int32), (if 300 < nI i then some ((-4), (v1, v2, G, v3)) else (b2 (f_X0_shareOut v2 (nI w0) b) fun x7 v27 => (if x7 = b then some (nI i, (v1, v27, G, v3)) else (b2 (f_X0_passTick v27) fun x9 v29 => (f_X3_possibleIn_L33 (m + t + 1) (nI w0) b (nI i + 1) v1 v29 G v3))))) = some (r, (v1, w2, G, v3)) ∧
      (if 300 < nI i then _ else ((f_X4_ableOf (sM X N) (nI w0)).bind fun x9 => (if b ≤ x9 then ((f_X4_back (sM X N)).bind fun V11 => (if nI i ≤ 300 then some (nI i, V11) else some ((-4), V11))) else ((f_X4_ticks (sM X N)).bind fun V13 => (f_X4_possibleIn_L23 (m' + t + 1) (nI w0) b (nI i + 1) V13))))) = some (r, sM (sM X N') (cpF 236 ((sM X N') 2) ((sM X N') 1)))
    rw [if_neg hn300, if_neg hn300, share_eq hO hw, b2_mk, ha, ob_s]
    by_cases hp : b.toInt ≤ abl N w0 12 w0
    · rw [if_pos (show b - shl N w0 12 w0 b = b by rw [i_eq, hs]; omega), if_pos (show b ≤ a by rw [i_le, hai]; exact hp), back_eq, ob_s, if_pos hle300]
      exact ⟨nI i, _, N, rfl, rfl⟩
    · rw [if_neg (show ¬ b - shl N w0 12 w0 b = b by rw [i_eq, hs]; omega), if_neg (show ¬ b ≤ a by rw [i_le, hai]; exact hp)]
      have hOs : Ok n d q T (sS v2 (shr N w0 12 w0 b (S0 v2))) N := ⟨hO.1.sS, hO.2⟩
      obtain ⟨x, V1, N1, q1, e1, e2, hO1, hC1, -, -⟩ := tick_sim (Vm := X) (by omega) (by omega) (by omega) hOs hC
      rw [e1, b2_mk, e2, ob_s, nI_1]
      exact ih (i + 1) m m' q1 (T + 1) V1 N1 (by omega) hO1 (by omega) (by rw [show c0 + 1000 * ((i + 1 : Nat) : Int) = c0 + 1000 * (i : Int) + 1000 by omega]; exact hC1)
theorem sim_possibleIn : Sim_possibleIn Inv := by
  intro v1 v2 G v3 V h x1 x2
  have h' := h
  obtain ⟨⟨n, d, q, hO, hC⟩, -⟩ := h'
  have hb := hO.2.1
  have hlo := hO.2.2.1
  unfold f_X3_possibleIn f_X4_possibleIn
  rcases ix_case n hb.1 x1 with ⟨w0, hw, rfl⟩ | hno
  · rw [x0_isWell_y hO.1.1.1 hb.1 hw, x4_isWell_y hO.1.1.2.1 hb.1 hw, ob_s, ob_s, if_neg (show ¬ (1 : Int32) = 0 by decide), if_neg (show ¬ (1 : Int32) = 0 by decide), areB_eq, isDraw_eq, ob_s, ob_s]
    rcases bk_case x2 with hh | ⟨hh, h1, h2⟩
    · rw [hh, if_pos rfl, if_pos rfl]
      exact ⟨-1, v1, v2, G, v3, V, rfl, rfl, h⟩
    · obtain ⟨X, hXe⟩ : ∃ X, X = sB V (cpF 236 (V 1) (V 2)) := ⟨_, rfl⟩
      have eX : sM X (V 1) = X := by rw [hXe]; exact sM_self
      obtain ⟨X', e1, hO1⟩ := copyFrom_ok hO v2
      obtain ⟨m, hm⟩ := FUEL_ge (k := 302) (by omega)
      obtain ⟨r, w2, N', f1, f2⟩ := possible_loop (X := X) (v1 := v1) (v3 := v3) (G := G) hw h1 (c0 := 1000 * (V 1 0).toInt) (by omega) (by omega) 301 0 m m q 50000 X' (V 1) (by omega) hO1 (by omega) (by rw [Int.natCast_zero, Int.mul_zero, Int.add_zero]; exact hC)
      rw [eX] at f2
      rw [hh, if_neg (show ¬ (1 : Int32) = 0 by decide), if_neg (show ¬ (1 : Int32) = 0 by decide), e1, ob_s, copy_eq, ob_s, ← hXe, hm]
      exact ⟨r, v1, w2, G, v3, _, f1, f2, h.back (by rw [hXe]; rfl) (by rw [hXe]; rfl) (by rw [hXe]; rfl) (by rw [hXe]; rfl) (by rw [hXe]; rfl) (by rw [hXe]; rfl)⟩
  · rw [x0_isWell_n hO.1.1.1 hno, x4_isWell_n hO.1.1.2.1 hb.1 hno, ob_s, ob_s, if_pos rfl, if_pos rfl]
    exact ⟨-1, v1, v2, G, v3, V, rfl, rfl, h⟩
theorem water_loop {n d P : Nat} {X v1 v3 : FV} {G : Nat → FV} {w0 : Nat} (hw : w0 < n) (hP : P ≤ 300) {c0 : Int} (h0 : 0 ≤ c0) (h1 : c0 ≤ 90000000) : ∀ (t i m m' q : Nat) (T : Int) (v2 : FV) (N : Nat → Int32), i + t = P → Ok n d q T v2 N → T ≤ 50000 + i → Cl n (c0 + 1000 * i) N → ∃ (r : Int32) (w2 : FV) (N' : Nat → Int32), f_X3_waterIn_L37 (m + t + 1) (nI w0) (nI P) (nI i) v1 v2 G v3 = some (r, (v1, w2, G, v3)) ∧ f_X4_waterIn_L27 (m' + t + 1) (nI w0) (nI P) (nI i) (sM X N) = some (r, sM (sM X N') (cpF 236 ((sM X N') 2) ((sM X N') 1))) := by
  intro t
  induction t with
  | zero =>
    intro i m m' q T v2 N h hO hT hC
    have hb := hO.2.1
    have hi : i = P := by omega
    subst hi
    refine ⟨N (8 + 12 * w0 + 4), v2, N, ?_, ?_⟩
    · show (if nI i ≤ nI i then ((rd 12 (v2 10) (nI w0)).bind fun x7 => some (x7, (v1, v2, G, v3))) else _) = _
      rw [if_pos (nI_le (Nat.le_refl i) (by omega)), rd_nI (by omega) (by omega), ob_s, show v2 10 w0 = N (8 + 12 * w0 + 4) from hO.1.2.1 w0 4 hw (by omega)]
    · show (if nI i ≤ nI i then ((f_X4_of (sM X N) (nI w0) 4).bind fun x7 => ((f_X4_back (sM X N)).bind fun V8 => some (x7, V8))) else _) = _
      rw [if_pos (nI_le (Nat.le_refl i) (by omega)), show (4 : Int32) = nI 4 from rfl, of_eqM (by omega) (by omega), ob_s, back_eq, ob_s]
  | succ t ih =>
    intro i m m' q T v2 N h hO hT hC
    have hlo := hO.2.2.1
    obtain ⟨x, V1, N1, q1, e1, e2, hO1, hC1, -, -⟩ := tick_sim (Vm := X) (by omega) (by omega) (by omega) hO hC
    show ∃ (r : Int32) (w2 : FV) (N' : Nat → Int32), (if nI P ≤ nI i then _ else (b2 (f_X0_passTick v2) fun x8 v28 => (f_X3_waterIn_L37 (m + t + 1) (nI w0) (nI P) (nI i + 1) v1 v28 G v3))) = some (r, (v1, w2, G, v3)) ∧
      (if nI P ≤ nI i then _ else ((f_X4_ticks (sM X N)).bind fun V9 => (f_X4_waterIn_L27 (m' + t + 1) (nI w0) (nI P) (nI i + 1) V9))) = some (r, sM (sM X N') (cpF 236 ((sM X N') 2) ((sM X N') 1)))
    rw [if_neg (nI_ge (by omega) (by omega)), if_neg (nI_ge (by omega) (by omega)), e1, b2_mk, e2, ob_s, nI_1]
    exact ih (i + 1) m m' q1 (T + 1) V1 N1 (by omega) hO1 (by omega) (by rw [show c0 + 1000 * ((i + 1 : Nat) : Int) = c0 + 1000 * (i : Int) + 1000 by omega]; exact hC1)
theorem sim_waterIn : Sim_waterIn Inv := by
  intro v1 v2 G v3 V h x1 x2
  have h' := h
  obtain ⟨⟨n, d, q, hO, hC⟩, -⟩ := h'
  have hb := hO.2.1
  have hlo := hO.2.2.1
  have i300 : (300 : Int32).toInt = 300 := rfl
  unfold f_X3_waterIn f_X4_waterIn
  rcases ix_case n hb.1 x1 with ⟨w0, hw, rfl⟩ | hno
  · rw [x0_isWell_y hO.1.1.1 hb.1 hw, x4_isWell_y hO.1.1.2.1 hb.1 hw, ob_s, ob_s, if_neg (show ¬ (1 : Int32) = 0 by decide), if_neg (show ¬ (1 : Int32) = 0 by decide)]
    by_cases c1 : x2 < 0
    · rw [if_pos c1, in_n (Or.inl c1), ob_s, if_pos rfl]
      exact ⟨-1, v1, v2, G, v3, V, rfl, rfl, h⟩
    · rw [if_neg c1]
      by_cases c2 : x2 ≤ 300
      · rw [if_pos c2, in_y c1 (by rw [i_lt]; rw [i_le] at c2; omega), ob_s, if_neg (show ¬ (1 : Int32) = 0 by decide)]
        rw [i_lt, i_0] at c1
        rw [i_le, i300] at c2
        have ep : x2 = nI x2.toInt.toNat := by rw [i_eq, nI_toInt (by omega)]; omega
        obtain ⟨P, hP⟩ : ∃ P, P = x2.toInt.toNat := ⟨_, rfl⟩
        rw [← hP] at ep
        have hP3 : P ≤ 300 := by omega
        clear hP
        subst ep
        obtain ⟨X, hXe⟩ : ∃ X, X = sB V (cpF 236 (V 1) (V 2)) := ⟨_, rfl⟩
        have eX : sM X (V 1) = X := by rw [hXe]; exact sM_self
        obtain ⟨X', e1, hO1⟩ := copyFrom_ok hO v2
        obtain ⟨m, hm⟩ := FUEL_ge (k := P + 1) (by omega)
        obtain ⟨r, w2, N', f1, f2⟩ := water_loop (X := X) (v1 := v1) (v3 := v3) (G := G) hw hP3 (c0 := 1000 * (V 1 0).toInt) (by omega) (by omega) P 0 m m q 50000 X' (V 1) (by omega) hO1 (by omega) (by rw [Int.natCast_zero, Int.mul_zero, Int.add_zero]; exact hC)
        rw [eX] at f2
        rw [e1, ob_s, copy_eq, ob_s, ← hXe, hm]
        exact ⟨r, v1, w2, G, v3, _, f1, f2, h.back (by rw [hXe]; rfl) (by rw [hXe]; rfl) (by rw [hXe]; rfl) (by rw [hXe]; rfl) (by rw [hXe]; rfl) (by rw [hXe]; rfl)⟩
      · rw [if_neg c2, in_n (Or.inr (by rw [i_lt]; rw [i_le] at c2; omega)), ob_s, if_pos rfl]
        exact ⟨-1, v1, v2, G, v3, V, rfl, rfl, h⟩
  · rw [x0_isWell_n hO.1.1.1 hno, x4_isWell_n hO.1.1.2.1 hb.1 hno, ob_s, ob_s, if_pos rfl, if_pos rfl]
    exact ⟨-1, v1, v2, G, v3, V, rfl, rfl, h⟩
/-! the beginning -/
theorem inv_0 : Inv V0 V0 G0 (fun _ _ => 0) V0M := by
  refine ⟨⟨0, 0, 0, ⟨⟨⟨rfl, rfl, rfl, rfl, rfl, rfl, rfl, rfl, rfl, rfl⟩, ?_, ?_, ?_, ?_, ?_⟩, ⟨by omega, ?_, ?_, Or.inl rfl, ?_, ?_, ?_, ?_, rfl⟩⟩, ?_⟩, ⟨0, by omega, rfl, rfl, fun i hi => absurd hi (by omega)⟩, 0, 0, 0, by omega, rfl, rfl, rfl, rfl, fun i hi => absurd hi (by omega)⟩
  · intro w r hw; exact absurd hw (by omega)
  · intro w hw; exact absurd hw (by omega)
  · intro w r h1 h2 h3 h4
    unfold V0
    rw [st_ne (by omega)]
  · intro i k hi; exact absurd hi (by omega)
  · intro i k hi; exact absurd hi (by omega)
  · decide
  · decide
  · intro w hw; exact absurd hw (by omega)
  · intro w hw; exact absurd hw (by omega)
  · intro w hw; exact absurd hw (by omega)
  · intro w hw; exact absurd hw (by omega)
  · intro w hw; exact absurd hw (by omega)
